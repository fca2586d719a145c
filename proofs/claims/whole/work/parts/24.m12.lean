/-! ===== the model: reading a text ===== -/
set_option maxRecDepth 100000 in
set_option maxHeartbeats 4000000 in
theorem m_isSign {x : pX} {d : Nat} {S : pS} {m : Nat} {as : Nat → Nat} {A : Nat → Nat → Int32} {F : Nat → Int32} {Q : Int32 → pS → Prop} (hM : MF S m as) {tp : Nat → Int32} {s : tk} {c : Int32} (hS : TS F tp s) (h4 : s.2.2 ≤ 4) (h1 : s.2.2 = 3 → tp s.1 = c → Q 1 (mP S m as A F)) (h0 : ¬ (s.2.2 = 3 ∧ tp s.1 = c) → Q 0 (mP S m as A F)) : PI x (d + 1) M_X9_isSign [.ref m, .int c] (mP S m as A F) Q := by
  refine PM_of (by decide +kernel) (Nat.le_of_ble_eq_true rfl) ?_
  show V x (d + 1) M_X9_isSign (qi Q) (0, 0) 0 [(0, .ref m), (1, .int c)] [] (mP S m as A F)
  refine V_aln (pc := 0) dX9_isSign_0 rfl rfl ?_
  refine M_gi (pc := 1) hM 16 304 dX9_isSign_1 (FL_X9_214 rfl) rfl rfl ?_
  refine V_iconst (pc := 4) (v := 3) dX9_isSign_4 (by decide) ?_
  refine V_cne (pc := 5) (t := 20) dX9_isSign_5 (by decide) (fun h5 => ?_) (fun h5 => ?_)
  · have q0 : ¬ (s.2.2 = 3 ∧ tp s.1 = c) := fun q => h5 (by rw [hS.1.2.2, q.1]; rfl)
    refine V_iconst (pc := 20) (v := 0) dX9_isSign_20 (by decide) ?_
    refine V_iret (pc := 21) dX9_isSign_21 rfl rfl ?_
    first | exact h0 q0 | exact h1 q3 q1
  · have q3 : s.2.2 = 3 := (nI_eq (b := 3) (by omega) (by decide)).mp (by rw [← hS.1.2.2]; exact h5)
    refine V_aln (pc := 8) dX9_isSign_8 rfl rfl ?_
    refine M_gi (pc := 9) hM 18 306 dX9_isSign_9 (FL_X9_223 rfl) rfl rfl ?_
    refine V_iln (pc := 12) dX9_isSign_12 rfl rfl ?_
    refine V_cne (pc := 13) (t := 20) dX9_isSign_13 (by decide) (fun h13 => ?_) (fun h13 => ?_)
    · have q0 : ¬ (s.2.2 = 3 ∧ tp s.1 = c) := fun q => h13 (by first | exact q.2 | (rw [hS.2.2.2 q3]; exact q.2))
      refine V_iconst (pc := 20) (v := 0) dX9_isSign_20 (by decide) ?_
      refine V_iret (pc := 21) dX9_isSign_21 rfl rfl ?_
      first | exact h0 q0 | exact h1 q3 q1
    · have q1 : tp s.1 = c := by first | exact h13 | (rw [← hS.2.2.2 q3]; exact h13)
      refine V_iconst (pc := 16) (v := 1) dX9_isSign_16 (by decide) ?_
      refine V_goto (pc := 17) (t := 21) dX9_isSign_17 (by decide) ?_
      refine V_iret (pc := 21) dX9_isSign_21 rfl rfl ?_
      first | exact h0 q0 | exact h1 q3 q1
abbrev wd3 (tp : Nat → Int32) (s : tk) (a b c : Int32) : Prop := s.2.2 = 1 ∧ s.2.1 - s.1 = 3 ∧ tp s.1 = a ∧ tp (s.1 + 1) = b ∧ tp (s.1 + 2) = c
abbrev wd4 (tp : Nat → Int32) (s : tk) (a b c e : Int32) : Prop := s.2.2 = 1 ∧ s.2.1 - s.1 = 4 ∧ tp s.1 = a ∧ tp (s.1 + 1) = b ∧ tp (s.1 + 2) = c ∧ tp (s.1 + 3) = e
set_option maxRecDepth 100000 in
set_option maxHeartbeats 4000000 in
theorem m_isWord4 {x : pX} {d : Nat} {S : pS} {m : Nat} {as : Nat → Nat} {A : Nat → Nat → Int32} {F : Nat → Int32} {Q : Int32 → pS → Prop} (hM : MF S m as) {tp : Nat → Int32} {s : tk} {L : Nat} {a b c e : Int32} (hT : A 300 = tp) (h96 : L ≤ 96) (hk : tko L s) (hS : TS F tp s) (he : ¬ e = 0) (h1 : (wd4 tp s a b c e) → Q 1 (mP S m as A F)) (h0 : ¬ (wd4 tp s a b c e) → Q 0 (mP S m as A F)) : PI x (d + 1) M_X9_isWordAt [.ref m, .int a, .int b, .int c, .int e] (mP S m as A F) Q := by
  have g1 := hk.1
  have g2 := hk.2.1
  have g4 := hk.2.2.2
  refine PM_of (by decide +kernel) (Nat.le_of_ble_eq_true rfl) ?_
  show V x (d + 1) M_X9_isWordAt (qi Q) (0, 0) 0 [(0, .ref m), (1, .int a), (2, .int b), (3, .int c), (4, .int e)] [] (mP S m as A F)
  refine V_il (pc := 0) dX9_isWordAt_0 rfl ?_
  refine V_ne (pc := 2) (t := 9) dX9_isWordAt_2 (by decide) (fun h2 => ?_) (fun h2 => ?_)
  · refine V_iconst (pc := 9) (v := 4) dX9_isWordAt_9 (by decide) ?_
    refine V_is (pc := 10) (fun y => [(0, .ref m), (1, .int a), (2, .int b), (3, .int c), (4, .int e), (5, .int y)]) dX9_isWordAt_10 (by decide) (fun _ => rfl) (fun y10 ey10 => ?_)
    refine V_aln (pc := 12) dX9_isWordAt_12 rfl rfl ?_
    refine M_gi (pc := 13) hM 16 304 dX9_isWordAt_13 (FL_X9_214 rfl) rfl rfl ?_
    refine V_iconst (pc := 16) (v := 1) dX9_isWordAt_16 (by decide) ?_
    refine V_cne (pc := 17) (t := 102) dX9_isWordAt_17 (by decide) (fun h17 => ?_) (fun h17 => ?_)
    · refine V_iconst (pc := 102) (v := 0) dX9_isWordAt_102 (by decide) ?_
      refine V_iret (pc := 103) dX9_isWordAt_103 rfl rfl ?_
      exact h0 (fun q => h17 (by rw [hS.1.2.2, q.1]; rfl))
    · have q1 : s.2.2 = 1 := (nI_eq (b := 1) (by omega) (by decide)).mp (by rw [← hS.1.2.2]; exact h17)
      refine V_aln (pc := 20) dX9_isWordAt_20 rfl rfl ?_
      refine M_gi (pc := 21) hM 15 303 dX9_isWordAt_21 (FL_X9_211 rfl) rfl rfl ?_
      refine V_aln (pc := 24) dX9_isWordAt_24 rfl rfl ?_
      refine M_gi (pc := 25) hM 14 302 dX9_isWordAt_25 (FL_X9_217 rfl) rfl rfl ?_
      refine V_isub (pc := 28) dX9_isWordAt_28 ?_
      refine V_il (pc := 29) dX9_isWordAt_29 rfl ?_
      refine V_cne (pc := 31) (t := 102) dX9_isWordAt_31 (by decide) (fun h31 => ?_) (fun h31 => ?_)
      · refine V_iconst (pc := 102) (v := 0) dX9_isWordAt_102 (by decide) ?_
        refine V_iret (pc := 103) dX9_isWordAt_103 rfl rfl ?_
        exact h0 (fun q => h31 (by rw [ey10, hS.1.2.1, hS.1.1, nI_sub g2, q.2.1]; rfl))
      · have q2 : s.2.1 - s.1 = 4 := (nI_eq (b := 4) (by omega) (by decide)).mp (by rw [← nI_sub g2, ← hS.1.2.1, ← hS.1.1]; exact h31.trans ey10)
        refine V_aln (pc := 34) dX9_isWordAt_34 rfl rfl ?_
        refine M_gr (pc := 35) hM 12 300 dX9_isWordAt_35 (FL_X9_43 rfl) rfl rfl (by decide) ?_
        refine V_aln (pc := 38) dX9_isWordAt_38 rfl rfl ?_
        refine M_gi (pc := 39) hM 14 302 dX9_isWordAt_39 (FL_X9_217 rfl) rfl rfl ?_
        refine M_ia (pc := 42) hM 300 (s.1) dX9_isWordAt_42 (by decide) (by decide) hS.1.1 (by show (_ : Nat) < 96; omega) ?_
        refine V_iln (pc := 43) dX9_isWordAt_43 rfl rfl ?_
        refine V_cne (pc := 44) (t := 102) dX9_isWordAt_44 (by decide) (fun h44 => ?_) (fun h44 => ?_)
        · refine V_iconst (pc := 102) (v := 0) dX9_isWordAt_102 (by decide) ?_
          refine V_iret (pc := 103) dX9_isWordAt_103 rfl rfl ?_
          exact h0 (fun q => h44 (by rw [hT]; exact q.2.2.1))
        · refine V_aln (pc := 47) dX9_isWordAt_47 rfl rfl ?_
          refine M_gr (pc := 48) hM 12 300 dX9_isWordAt_48 (FL_X9_43 rfl) rfl rfl (by decide) ?_
          refine V_aln (pc := 51) dX9_isWordAt_51 rfl rfl ?_
          refine M_gi (pc := 52) hM 14 302 dX9_isWordAt_52 (FL_X9_217 rfl) rfl rfl ?_
          refine V_iconst (pc := 55) (v := 1) dX9_isWordAt_55 (by decide) ?_
          refine V_iadd (pc := 56) dX9_isWordAt_56 ?_
          refine M_ia (pc := 57) hM 300 ((s.1 + 1)) dX9_isWordAt_57 (by decide) (by decide) (by rw [hS.1.1]; exact nI_1 _) (by show (_ : Nat) < 96; omega) ?_
          refine V_iln (pc := 58) dX9_isWordAt_58 rfl rfl ?_
          refine V_cne (pc := 59) (t := 102) dX9_isWordAt_59 (by decide) (fun h59 => ?_) (fun h59 => ?_)
          · refine V_iconst (pc := 102) (v := 0) dX9_isWordAt_102 (by decide) ?_
            refine V_iret (pc := 103) dX9_isWordAt_103 rfl rfl ?_
            exact h0 (fun q => h59 (by rw [hT]; exact q.2.2.2.1))
          · refine V_aln (pc := 62) dX9_isWordAt_62 rfl rfl ?_
            refine M_gr (pc := 63) hM 12 300 dX9_isWordAt_63 (FL_X9_43 rfl) rfl rfl (by decide) ?_
            refine V_aln (pc := 66) dX9_isWordAt_66 rfl rfl ?_
            refine M_gi (pc := 67) hM 14 302 dX9_isWordAt_67 (FL_X9_217 rfl) rfl rfl ?_
            refine V_iconst (pc := 70) (v := 2) dX9_isWordAt_70 (by decide) ?_
            refine V_iadd (pc := 71) dX9_isWordAt_71 ?_
            refine M_ia (pc := 72) hM 300 ((s.1 + 2)) dX9_isWordAt_72 (by decide) (by decide) (by rw [hS.1.1, show (2 : Int32) = nI 2 from rfl, nI_add]) (by show (_ : Nat) < 96; omega) ?_
            refine V_iln (pc := 73) dX9_isWordAt_73 rfl rfl ?_
            refine V_cne (pc := 74) (t := 102) dX9_isWordAt_74 (by decide) (fun h74 => ?_) (fun h74 => ?_)
            · refine V_iconst (pc := 102) (v := 0) dX9_isWordAt_102 (by decide) ?_
              refine V_iret (pc := 103) dX9_isWordAt_103 rfl rfl ?_
              exact h0 (fun q => h74 (by rw [hT]; exact q.2.2.2.2.1))
            · refine V_il (pc := 77) dX9_isWordAt_77 rfl ?_
              refine V_eq (pc := 79) (t := 98) dX9_isWordAt_79 (by decide) (fun h79 => ?_) (fun h79 => ?_)
              · exact absurd h79 he
              · refine V_aln (pc := 82) dX9_isWordAt_82 rfl rfl ?_
                refine M_gr (pc := 83) hM 12 300 dX9_isWordAt_83 (FL_X9_43 rfl) rfl rfl (by decide) ?_
                refine V_aln (pc := 86) dX9_isWordAt_86 rfl rfl ?_
                refine M_gi (pc := 87) hM 14 302 dX9_isWordAt_87 (FL_X9_217 rfl) rfl rfl ?_
                refine V_iconst (pc := 90) (v := 3) dX9_isWordAt_90 (by decide) ?_
                refine V_iadd (pc := 91) dX9_isWordAt_91 ?_
                refine M_ia (pc := 92) hM 300 ((s.1 + 3)) dX9_isWordAt_92 (by decide) (by decide) (by rw [hS.1.1, show (3 : Int32) = nI 3 from rfl, nI_add]) (by show (_ : Nat) < 96; omega) ?_
                refine V_il (pc := 93) dX9_isWordAt_93 rfl ?_
                refine V_cne (pc := 95) (t := 102) dX9_isWordAt_95 (by decide) (fun h95 => ?_) (fun h95 => ?_)
                · refine V_iconst (pc := 102) (v := 0) dX9_isWordAt_102 (by decide) ?_
                  refine V_iret (pc := 103) dX9_isWordAt_103 rfl rfl ?_
                  exact h0 (fun q => h95 (by rw [hT]; exact q.2.2.2.2.2))
                · refine V_iconst (pc := 98) (v := 1) dX9_isWordAt_98 (by decide) ?_
                  refine V_goto (pc := 99) (t := 103) dX9_isWordAt_99 (by decide) ?_
                  refine V_iret (pc := 103) dX9_isWordAt_103 rfl rfl ?_
                  exact h1 ⟨q1, q2, by rw [← hT]; exact h44, by rw [← hT]; exact h59, by rw [← hT]; exact h74, by rw [← hT]; exact h95⟩
  · exact absurd h2 he
set_option maxRecDepth 100000 in
set_option maxHeartbeats 4000000 in
theorem m_isWord3 {x : pX} {d : Nat} {S : pS} {m : Nat} {as : Nat → Nat} {A : Nat → Nat → Int32} {F : Nat → Int32} {Q : Int32 → pS → Prop} (hM : MF S m as) {tp : Nat → Int32} {s : tk} {L : Nat} {a b c : Int32} (hT : A 300 = tp) (h96 : L ≤ 96) (hk : tko L s) (hS : TS F tp s) (h1 : (wd3 tp s a b c) → Q 1 (mP S m as A F)) (h0 : ¬ (wd3 tp s a b c) → Q 0 (mP S m as A F)) : PI x (d + 1) M_X9_isWordAt [.ref m, .int a, .int b, .int c, .int 0] (mP S m as A F) Q := by
  have g1 := hk.1
  have g2 := hk.2.1
  have g4 := hk.2.2.2
  refine PM_of (by decide +kernel) (Nat.le_of_ble_eq_true rfl) ?_
  show V x (d + 1) M_X9_isWordAt (qi Q) (0, 0) 0 [(0, .ref m), (1, .int a), (2, .int b), (3, .int c), (4, .int 0)] [] (mP S m as A F)
  refine V_il (pc := 0) dX9_isWordAt_0 rfl ?_
  refine V_ne (pc := 2) (t := 9) dX9_isWordAt_2 (by decide) (fun h => absurd h (by decide)) (fun _ => ?_)
  refine V_iconst (pc := 5) (v := 3) dX9_isWordAt_5 (by decide) ?_
  refine V_goto (pc := 6) (t := 10) dX9_isWordAt_6 (by decide) ?_
  refine V_is (pc := 10) (fun y => [(0, .ref m), (1, .int a), (2, .int b), (3, .int c), (4, .int 0), (5, .int y)]) dX9_isWordAt_10 (by decide) (fun _ => rfl) (fun y10 ey10 => ?_)
  refine V_aln (pc := 12) dX9_isWordAt_12 rfl rfl ?_
  refine M_gi (pc := 13) hM 16 304 dX9_isWordAt_13 (FL_X9_214 rfl) rfl rfl ?_
  refine V_iconst (pc := 16) (v := 1) dX9_isWordAt_16 (by decide) ?_
  refine V_cne (pc := 17) (t := 102) dX9_isWordAt_17 (by decide) (fun h17 => ?_) (fun h17 => ?_)
  · refine V_iconst (pc := 102) (v := 0) dX9_isWordAt_102 (by decide) ?_
    refine V_iret (pc := 103) dX9_isWordAt_103 rfl rfl ?_
    exact h0 (fun q => h17 (by rw [hS.1.2.2, q.1]; rfl))
  · have q1 : s.2.2 = 1 := (nI_eq (b := 1) (by omega) (by decide)).mp (by rw [← hS.1.2.2]; exact h17)
    refine V_aln (pc := 20) dX9_isWordAt_20 rfl rfl ?_
    refine M_gi (pc := 21) hM 15 303 dX9_isWordAt_21 (FL_X9_211 rfl) rfl rfl ?_
    refine V_aln (pc := 24) dX9_isWordAt_24 rfl rfl ?_
    refine M_gi (pc := 25) hM 14 302 dX9_isWordAt_25 (FL_X9_217 rfl) rfl rfl ?_
    refine V_isub (pc := 28) dX9_isWordAt_28 ?_
    refine V_il (pc := 29) dX9_isWordAt_29 rfl ?_
    refine V_cne (pc := 31) (t := 102) dX9_isWordAt_31 (by decide) (fun h31 => ?_) (fun h31 => ?_)
    · refine V_iconst (pc := 102) (v := 0) dX9_isWordAt_102 (by decide) ?_
      refine V_iret (pc := 103) dX9_isWordAt_103 rfl rfl ?_
      exact h0 (fun q => h31 (by rw [ey10, hS.1.2.1, hS.1.1, nI_sub g2, q.2.1]; rfl))
    · have q2 : s.2.1 - s.1 = 3 := (nI_eq (b := 3) (by omega) (by decide)).mp (by rw [← nI_sub g2, ← hS.1.2.1, ← hS.1.1]; exact h31.trans ey10)
      refine V_aln (pc := 34) dX9_isWordAt_34 rfl rfl ?_
      refine M_gr (pc := 35) hM 12 300 dX9_isWordAt_35 (FL_X9_43 rfl) rfl rfl (by decide) ?_
      refine V_aln (pc := 38) dX9_isWordAt_38 rfl rfl ?_
      refine M_gi (pc := 39) hM 14 302 dX9_isWordAt_39 (FL_X9_217 rfl) rfl rfl ?_
      refine M_ia (pc := 42) hM 300 (s.1) dX9_isWordAt_42 (by decide) (by decide) hS.1.1 (by show (_ : Nat) < 96; omega) ?_
      refine V_iln (pc := 43) dX9_isWordAt_43 rfl rfl ?_
      refine V_cne (pc := 44) (t := 102) dX9_isWordAt_44 (by decide) (fun h44 => ?_) (fun h44 => ?_)
      · refine V_iconst (pc := 102) (v := 0) dX9_isWordAt_102 (by decide) ?_
        refine V_iret (pc := 103) dX9_isWordAt_103 rfl rfl ?_
        exact h0 (fun q => h44 (by rw [hT]; exact q.2.2.1))
      · refine V_aln (pc := 47) dX9_isWordAt_47 rfl rfl ?_
        refine M_gr (pc := 48) hM 12 300 dX9_isWordAt_48 (FL_X9_43 rfl) rfl rfl (by decide) ?_
        refine V_aln (pc := 51) dX9_isWordAt_51 rfl rfl ?_
        refine M_gi (pc := 52) hM 14 302 dX9_isWordAt_52 (FL_X9_217 rfl) rfl rfl ?_
        refine V_iconst (pc := 55) (v := 1) dX9_isWordAt_55 (by decide) ?_
        refine V_iadd (pc := 56) dX9_isWordAt_56 ?_
        refine M_ia (pc := 57) hM 300 ((s.1 + 1)) dX9_isWordAt_57 (by decide) (by decide) (by rw [hS.1.1]; exact nI_1 _) (by show (_ : Nat) < 96; omega) ?_
        refine V_iln (pc := 58) dX9_isWordAt_58 rfl rfl ?_
        refine V_cne (pc := 59) (t := 102) dX9_isWordAt_59 (by decide) (fun h59 => ?_) (fun h59 => ?_)
        · refine V_iconst (pc := 102) (v := 0) dX9_isWordAt_102 (by decide) ?_
          refine V_iret (pc := 103) dX9_isWordAt_103 rfl rfl ?_
          exact h0 (fun q => h59 (by rw [hT]; exact q.2.2.2.1))
        · refine V_aln (pc := 62) dX9_isWordAt_62 rfl rfl ?_
          refine M_gr (pc := 63) hM 12 300 dX9_isWordAt_63 (FL_X9_43 rfl) rfl rfl (by decide) ?_
          refine V_aln (pc := 66) dX9_isWordAt_66 rfl rfl ?_
          refine M_gi (pc := 67) hM 14 302 dX9_isWordAt_67 (FL_X9_217 rfl) rfl rfl ?_
          refine V_iconst (pc := 70) (v := 2) dX9_isWordAt_70 (by decide) ?_
          refine V_iadd (pc := 71) dX9_isWordAt_71 ?_
          refine M_ia (pc := 72) hM 300 ((s.1 + 2)) dX9_isWordAt_72 (by decide) (by decide) (by rw [hS.1.1, show (2 : Int32) = nI 2 from rfl, nI_add]) (by show (_ : Nat) < 96; omega) ?_
          refine V_iln (pc := 73) dX9_isWordAt_73 rfl rfl ?_
          refine V_cne (pc := 74) (t := 102) dX9_isWordAt_74 (by decide) (fun h74 => ?_) (fun h74 => ?_)
          · refine V_iconst (pc := 102) (v := 0) dX9_isWordAt_102 (by decide) ?_
            refine V_iret (pc := 103) dX9_isWordAt_103 rfl rfl ?_
            exact h0 (fun q => h74 (by rw [hT]; exact q.2.2.2.2))
          · refine V_il (pc := 77) dX9_isWordAt_77 rfl ?_
            refine V_eq (pc := 79) (t := 98) dX9_isWordAt_79 (by decide) (fun _ => ?_) (fun h => absurd h (by decide))
            refine V_iconst (pc := 98) (v := 1) dX9_isWordAt_98 (by decide) ?_
            refine V_goto (pc := 99) (t := 103) dX9_isWordAt_99 (by decide) ?_
            refine V_iret (pc := 103) dX9_isWordAt_103 rfl rfl ?_
            exact h1 ⟨q1, q2, by rw [← hT]; exact h44, by rw [← hT]; exact h59, by rw [← hT]; exact h74⟩

def fkey (tp : Nat → Int32) (s : tk) : Int32 := if wd4 tp s 119 101 97 114 then 0 else if wd3 tp s 108 97 119 then 1 else if wd4 tp s 102 105 110 101 then 2 else -1
set_option maxRecDepth 100000 in
set_option maxHeartbeats 4000000 in
theorem m_key {x : pX} {d : Nat} {S : pS} {m : Nat} {as : Nat → Nat} {A : Nat → Nat → Int32} {F : Nat → Int32} {Q : Int32 → pS → Prop} (hM : MF S m as) {tp : Nat → Int32} {s : tk} {L : Nat} (hT : A 300 = tp) (h96 : L ≤ 96) (hk : tko L s) (hS : TS F tp s) (h : Q (fkey tp s) (mP S m as A F)) : PI x (d + 2) M_X9_key [.ref m] (mP S m as A F) Q := by
  unfold fkey at h
  refine PM_of (by decide +kernel) (Nat.le_of_ble_eq_true rfl) ?_
  show V x (d + 2) M_X9_key (qi Q) (0, 0) 0 [(0, .ref m)] [] (mP S m as A F)
  refine V_aln (pc := 0) dX9_key_0 rfl rfl ?_
  refine V_bipush (pc := 1) (v := 119) dX9_key_1 (by decide) ?_
  refine V_bipush (pc := 3) (v := 101) dX9_key_3 (by decide) ?_
  refine V_bipush (pc := 5) (v := 97) dX9_key_5 (by decide) ?_
  refine V_bipush (pc := 7) (v := 114) dX9_key_7 (by decide) ?_
  refine V_cVi0 (pc := 9) (jc_X9_232 dX9_key_9 rfl) rfl rfl (Nat.le_of_ble_eq_true rfl) (mF_k hM) ?_
  refine m_isWord4 hM hT h96 hk hS (by decide) (fun q => ?_) (fun q => ?_)
  · rw [if_pos q] at h
    refine V_eq (pc := 12) (t := 17) dX9_key_12 (by decide) (fun h => absurd h (by decide)) (fun _ => ?_)
    refine V_iconst (pc := 15) (v := 0) dX9_key_15 (by decide) ?_
    refine V_iret (pc := 16) dX9_key_16 rfl rfl ?_
    exact h
  · rw [if_neg q] at h
    refine V_eq (pc := 12) (t := 17) dX9_key_12 (by decide) (fun _ => ?_) (fun h => absurd h (by decide))
    refine V_aln (pc := 17) dX9_key_17 rfl rfl ?_
    refine V_bipush (pc := 18) (v := 108) dX9_key_18 (by decide) ?_
    refine V_bipush (pc := 20) (v := 97) dX9_key_20 (by decide) ?_
    refine V_bipush (pc := 22) (v := 119) dX9_key_22 (by decide) ?_
    refine V_iconst (pc := 24) (v := 0) dX9_key_24 (by decide) ?_
    refine V_cVi0 (pc := 25) (jc_X9_232 dX9_key_25 rfl) rfl rfl (Nat.le_of_ble_eq_true rfl) (mF_k hM) ?_
    refine m_isWord3 hM hT h96 hk hS (fun q => ?_) (fun q => ?_)
    · rw [if_pos q] at h
      refine V_eq (pc := 28) (t := 33) dX9_key_28 (by decide) (fun h => absurd h (by decide)) (fun _ => ?_)
      refine V_iconst (pc := 31) (v := 1) dX9_key_31 (by decide) ?_
      refine V_iret (pc := 32) dX9_key_32 rfl rfl ?_
      exact h
    · rw [if_neg q] at h
      refine V_eq (pc := 28) (t := 33) dX9_key_28 (by decide) (fun _ => ?_) (fun h => absurd h (by decide))
      refine V_aln (pc := 33) dX9_key_33 rfl rfl ?_
      refine V_bipush (pc := 34) (v := 102) dX9_key_34 (by decide) ?_
      refine V_bipush (pc := 36) (v := 105) dX9_key_36 (by decide) ?_
      refine V_bipush (pc := 38) (v := 110) dX9_key_38 (by decide) ?_
      refine V_bipush (pc := 40) (v := 101) dX9_key_40 (by decide) ?_
      refine V_cVi0 (pc := 42) (jc_X9_232 dX9_key_42 rfl) rfl rfl (Nat.le_of_ble_eq_true rfl) (mF_k hM) ?_
      refine m_isWord4 hM hT h96 hk hS (by decide) (fun q => ?_) (fun q => ?_)
      · rw [if_pos q] at h
        refine V_eq (pc := 45) (t := 52) dX9_key_45 (by decide) (fun h => absurd h (by decide)) (fun _ => ?_)
        refine V_iconst (pc := 48) (v := 2) dX9_key_48 (by decide) ?_
        refine V_goto (pc := 49) (t := 53) dX9_key_49 (by decide) ?_
        refine V_iret (pc := 53) dX9_key_53 rfl rfl ?_
        exact h
      · rw [if_neg q] at h
        refine V_eq (pc := 45) (t := 52) dX9_key_45 (by decide) (fun _ => ?_) (fun h => absurd h (by decide))
        refine V_iconst (pc := 52) (v := (-1)) dX9_key_52 (by decide) ?_
        refine V_iret (pc := 53) dX9_key_53 rfl rfl ?_
        exact h
set_option maxRecDepth 100000 in
set_option maxHeartbeats 4000000 in
theorem m_isName {x : pX} {d : Nat} {S : pS} {Q : Int32 → pS → Prop} {k c : Int32} (h1 : isNm k c → Q 1 S) (h0 : ¬ isNm k c → Q 0 S) : PI x (d + 1) M_X9_isName [.int k, .int c] S Q := by
  refine PM_of (by decide +kernel) (Nat.le_of_ble_eq_true rfl) ?_
  show V x (d + 1) M_X9_isName (qi Q) (0, 0) 0 [(0, .int k), (1, .int c)] [] S
  refine V_iln (pc := 0) dX9_isName_0 rfl rfl ?_
  refine V_lk (pc := 1) [(0, 27), (1, 51)] dX9_isName_1 rfl (by decide) (fun z => by simp only [Op.lookupswitch.offset_cons, Op.lookupswitch.offset_nil]; repeat (first | omega | split)) (fun t1 ht1 => ?_)
  simp only [Op.lookupswitch.offset_cons, Op.lookupswitch.offset_nil] at ht1
  by_cases c1_0 : k = (0 : Int32)
  · rw [if_pos (by rw [c1_0]; decide)] at ht1
    obtain rfl : t1 = 28 := by omega
    refine V_iln (pc := 28) dX9_isName_28 rfl rfl ?_
    refine V_bipush (pc := 29) (v := 103) dX9_isName_29 (by decide) ?_
    refine V_ceq (pc := 31) (t := 46) dX9_isName_31 (by decide) (fun h31 => ?_) (fun h31 => ?_)
    · have hy : isNm k c := Or.inl ⟨c1_0, Or.inl h31⟩
      refine V_iconst (pc := 46) (v := 1) dX9_isName_46 (by decide) ?_
      refine V_goto (pc := 47) (t := 51) dX9_isName_47 (by decide) ?_
      refine V_iret (pc := 51) dX9_isName_51 rfl rfl ?_
      first | exact h1 hy | exact h0 hn
    · refine V_iln (pc := 34) dX9_isName_34 rfl rfl ?_
      refine V_bipush (pc := 35) (v := 116) dX9_isName_35 (by decide) ?_
      refine V_ceq (pc := 37) (t := 46) dX9_isName_37 (by decide) (fun h37 => ?_) (fun h37 => ?_)
      · have hy : isNm k c := Or.inl ⟨c1_0, Or.inr (Or.inl h37)⟩
        refine V_iconst (pc := 46) (v := 1) dX9_isName_46 (by decide) ?_
        refine V_goto (pc := 47) (t := 51) dX9_isName_47 (by decide) ?_
        refine V_iret (pc := 51) dX9_isName_51 rfl rfl ?_
        first | exact h1 hy | exact h0 hn
      · refine V_iln (pc := 40) dX9_isName_40 rfl rfl ?_
        refine V_bipush (pc := 41) (v := 115) dX9_isName_41 (by decide) ?_
        refine V_cne (pc := 43) (t := 50) dX9_isName_43 (by decide) (fun h43 => ?_) (fun h43 => ?_)
        · have hn : ¬ isNm k c := by
            rintro (⟨_, e | e | e⟩ | ⟨e, _⟩ | ⟨e, _⟩)
            · exact h31 e
            · exact h37 e
            · exact h43 e
            · exact absurd (c1_0.symm.trans e) (by decide)
            · exact e c1_0
          refine V_iconst (pc := 50) (v := 0) dX9_isName_50 (by decide) ?_
          refine V_iret (pc := 51) dX9_isName_51 rfl rfl ?_
          first | exact h1 hy | exact h0 hn
        · have hy : isNm k c := Or.inl ⟨c1_0, Or.inr (Or.inr h43)⟩
          refine V_iconst (pc := 46) (v := 1) dX9_isName_46 (by decide) ?_
          refine V_goto (pc := 47) (t := 51) dX9_isName_47 (by decide) ?_
          refine V_iret (pc := 51) dX9_isName_51 rfl rfl ?_
          first | exact h1 hy | exact h0 hn
  rw [if_neg (fun q => c1_0 (Int32.toInt_inj.mp (q.symm.trans (by decide))))] at ht1
  by_cases c1_1 : k = (1 : Int32)
  · rw [if_pos (by rw [c1_1]; decide)] at ht1
    obtain rfl : t1 = 52 := by omega
    refine V_iln (pc := 52) dX9_isName_52 rfl rfl ?_
    refine V_bipush (pc := 53) (v := 115) dX9_isName_53 (by decide) ?_
    refine V_ceq (pc := 55) (t := 64) dX9_isName_55 (by decide) (fun h55 => ?_) (fun h55 => ?_)
    · have hy : isNm k c := Or.inr (Or.inl ⟨c1_1, Or.inl h55⟩)
      refine V_iconst (pc := 64) (v := 1) dX9_isName_64 (by decide) ?_
      refine V_goto (pc := 65) (t := 69) dX9_isName_65 (by decide) ?_
      refine V_iret (pc := 69) dX9_isName_69 rfl rfl ?_
      first | exact h1 hy | exact h0 hn
    · refine V_iln (pc := 58) dX9_isName_58 rfl rfl ?_
      refine V_bipush (pc := 59) (v := 100) dX9_isName_59 (by decide) ?_
      refine V_cne (pc := 61) (t := 68) dX9_isName_61 (by decide) (fun h61 => ?_) (fun h61 => ?_)
      · have hn : ¬ isNm k c := by
          rintro (⟨e, _⟩ | ⟨_, e | e⟩ | ⟨_, e, _⟩)
          · exact c1_0 e
          · exact h55 e
          · exact h61 e
          · exact e c1_1
        refine V_iconst (pc := 68) (v := 0) dX9_isName_68 (by decide) ?_
        refine V_iret (pc := 69) dX9_isName_69 rfl rfl ?_
        first | exact h1 hy | exact h0 hn
      · have hy : isNm k c := Or.inr (Or.inl ⟨c1_1, Or.inr h61⟩)
        refine V_iconst (pc := 64) (v := 1) dX9_isName_64 (by decide) ?_
        refine V_goto (pc := 65) (t := 69) dX9_isName_65 (by decide) ?_
        refine V_iret (pc := 69) dX9_isName_69 rfl rfl ?_
        first | exact h1 hy | exact h0 hn
  rw [if_neg (fun q => c1_1 (Int32.toInt_inj.mp (q.symm.trans (by decide))))] at ht1
  obtain rfl : t1 = 70 := by omega
  refine V_iln (pc := 70) dX9_isName_70 rfl rfl ?_
  refine V_bipush (pc := 71) (v := 108) dX9_isName_71 (by decide) ?_
  refine V_ceq (pc := 73) (t := 82) dX9_isName_73 (by decide) (fun h73 => ?_) (fun h73 => ?_)
  · have hy : isNm k c := Or.inr (Or.inr ⟨c1_0, c1_1, Or.inl h73⟩)
    refine V_iconst (pc := 82) (v := 1) dX9_isName_82 (by decide) ?_
    refine V_goto (pc := 83) (t := 87) dX9_isName_83 (by decide) ?_
    refine V_iret (pc := 87) dX9_isName_87 rfl rfl ?_
    first | exact h1 hy | exact h0 hn
  · refine V_iln (pc := 76) dX9_isName_76 rfl rfl ?_
    refine V_bipush (pc := 77) (v := 116) dX9_isName_77 (by decide) ?_
    refine V_cne (pc := 79) (t := 86) dX9_isName_79 (by decide) (fun h79 => ?_) (fun h79 => ?_)
    · have hn : ¬ isNm k c := by
        rintro (⟨e, _⟩ | ⟨e, _⟩ | ⟨_, _, e | e⟩)
        · exact c1_0 e
        · exact c1_1 e
        · exact h73 e
        · exact h79 e
      refine V_iconst (pc := 86) (v := 0) dX9_isName_86 (by decide) ?_
      refine V_iret (pc := 87) dX9_isName_87 rfl rfl ?_
      first | exact h1 hy | exact h0 hn
    · have hy : isNm k c := Or.inr (Or.inr ⟨c1_0, c1_1, Or.inr h79⟩)
      refine V_iconst (pc := 82) (v := 1) dX9_isName_82 (by decide) ?_
      refine V_goto (pc := 83) (t := 87) dX9_isName_83 (by decide) ?_
      refine V_iret (pc := 87) dX9_isName_87 rfl rfl ?_
      first | exact h1 hy | exact h0 hn
theorem gD_l (o : sps) (y : Int32 × Int32) {i : Nat} (h : i < o.length) : (o ++ [y]).getD i (0, 0) = o.getD i (0, 0) := by rw [List.getD_eq_getElem?_getD, List.getD_eq_getElem?_getD, List.getElem?_append_left h]
theorem gD_r (o : sps) (y : Int32 × Int32) : (o ++ [y]).getD o.length (0, 0) = y := by rw [List.getD_eq_getElem?_getD, List.getElem?_append_right (Nat.le_refl _), Nat.sub_self]; rfl
/-- a row with steps laid from a place on -/
def stl (σ : Nat → Int32) (z : Nat) (o : sps) : Nat → Int32 := fun j => if z ≤ j ∧ j < z + 2 * o.length then (if (j - z) % 2 = 0 then (o.getD ((j - z) / 2) (0, 0)).1 else (o.getD ((j - z) / 2) (0, 0)).2) else σ j
theorem stl_0 (σ : Nat → Int32) (z : Nat) : stl σ z [] = σ := by funext j; unfold stl; rw [if_neg (by simp only [List.length_nil]; omega)]
theorem stl_s (σ : Nat → Int32) (z : Nat) (o : sps) (w v : Int32) : upd (upd (stl σ z o) (z + 2 * o.length) w) (z + 2 * o.length + 1) v = stl σ z (o ++ [(w, v)]) := by
  funext j
  have hl : (o ++ [(w, v)]).length = o.length + 1 := by simp
  by_cases h1 : j = z + 2 * o.length + 1
  · subst h1
    rw [pk_us]
    unfold stl
    rw [hl, if_pos (by omega), if_neg (by omega), show (z + 2 * o.length + 1 - z) / 2 = o.length by omega, gD_r]
  · rw [pk_un h1]
    by_cases h2 : j = z + 2 * o.length
    · subst h2
      rw [pk_us]
      unfold stl
      rw [hl, if_pos (by omega), if_pos (by omega), show (z + 2 * o.length - z) / 2 = o.length by omega, gD_r]
    · rw [pk_un h2]
      unfold stl
      rw [hl]
      by_cases h3 : z ≤ j ∧ j < z + 2 * o.length
      · rw [if_pos h3, if_pos (show z ≤ j ∧ j < z + 2 * (o.length + 1) by omega), gD_l o _ (show (j - z) / 2 < o.length by omega)]
      · rw [if_neg h3, if_neg (by omega)]
set_option maxRecDepth 100000 in
set_option maxHeartbeats 4000000 in
theorem m_step {x : pX} {d : Nat} {S : pS} {m : Nat} {as : Nat → Nat} {A : Nat → Nat → Int32} {F : Nat → Int32} {Q : pS → Prop} (hM : MF S m as) {A0 : Nat → Nat → Int32} {z : Nat} {o : sps} {w v : Int32} (hA : A = uA A0 (stl (A0 288) z o)) (h10 : F 310 = nI z) (h9 : F 309 = nI o.length) (hz : z + 2 * o.length + 1 < 3154) (h : Q (mP S m as (uA A0 (stl (A0 288) z (o ++ [(w, v)]))) (va_up F 309 (nI (o.length + 1))))) : PV x (d + 1) M_X9_step [.ref m, .int w, .int v] (mP S m as A F) Q := by
  refine PM_of (by decide +kernel) (Nat.le_of_ble_eq_true rfl) ?_
  show V x (d + 1) M_X9_step (qv Q) (0, 0) 0 [(0, .ref m), (1, .int w), (2, .int v)] [] (mP S m as A F)
  refine V_aln (pc := 0) dX9_step_0 rfl rfl ?_
  refine M_gr (pc := 1) hM 0 288 dX9_step_1 (FL_X9_7 rfl) rfl rfl (by decide) ?_
  refine V_aln (pc := 4) dX9_step_4 rfl rfl ?_
  refine M_gi (pc := 5) hM 22 310 dX9_step_5 (FL_X9_236 rfl) rfl rfl ?_
  refine V_iconst (pc := 8) (v := 2) dX9_step_8 (by decide) ?_
  refine V_aln (pc := 9) dX9_step_9 rfl rfl ?_
  refine M_gi (pc := 10) hM 21 309 dX9_step_10 (FL_X9_239 rfl) rfl rfl ?_
  refine V_imul (pc := 13) dX9_step_13 ?_
  refine V_iadd (pc := 14) dX9_step_14 ?_
  refine V_iln (pc := 15) dX9_step_15 rfl rfl ?_
  refine M_iasS (pc := 16) hM ((z + 2 * o.length)) dX9_step_16 (by rw [h10, h9, show (2 : Int32) = nI 2 from rfl, pk_mul, nI_add]) (by show (_ : Nat) < 3154; omega) ?_
  refine V_aln (pc := 17) dX9_step_17 rfl rfl ?_
  refine M_gr (pc := 18) hM 0 288 dX9_step_18 (FL_X9_7 rfl) rfl rfl (by decide) ?_
  refine V_aln (pc := 21) dX9_step_21 rfl rfl ?_
  refine M_gi (pc := 22) hM 22 310 dX9_step_22 (FL_X9_236 rfl) rfl rfl ?_
  refine V_iconst (pc := 25) (v := 2) dX9_step_25 (by decide) ?_
  refine V_aln (pc := 26) dX9_step_26 rfl rfl ?_
  refine M_gi (pc := 27) hM 21 309 dX9_step_27 (FL_X9_239 rfl) rfl rfl ?_
  refine V_imul (pc := 30) dX9_step_30 ?_
  refine V_iadd (pc := 31) dX9_step_31 ?_
  refine V_iconst (pc := 32) (v := 1) dX9_step_32 (by decide) ?_
  refine V_iadd (pc := 33) dX9_step_33 ?_
  refine V_iln (pc := 34) dX9_step_34 rfl rfl ?_
  refine M_iasS (pc := 35) hM ((z + 2 * o.length + 1)) dX9_step_35 (by rw [h10, h9, show (2 : Int32) = nI 2 from rfl, pk_mul, nI_add]; exact nI_1 _) (by show (_ : Nat) < 3154; omega) ?_
  refine V_aln (pc := 36) dX9_step_36 rfl rfl ?_
  refine V_dup (pc := 37) dX9_step_37 rfl ?_
  refine M_gi (pc := 38) hM 21 309 dX9_step_38 (FL_X9_239 rfl) rfl rfl ?_
  refine V_iconst (pc := 41) (v := 1) dX9_step_41 (by decide) ?_
  refine V_iadd (pc := 42) dX9_step_42 ?_
  refine M_pi (pc := 43) hM 21 309 dX9_step_43 (FL_X9_239 rfl) rfl rfl rfl ?_
  refine V_ret (pc := 46) dX9_step_46 rfl ?_
  subst hA
  rw [uA_at, uA_at, uA_uA, uA_uA, stl_s, h9, show nI o.length + 1 = nI (o.length + 1) from nI_1 _]
  exact h
