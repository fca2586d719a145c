/-! ===== the class's reader: keys, numbers, names, pieces ===== -/
section TOK
variable {S : pS} {ct : Nat → Nat} {tp : Nat → Int32} {L : Nat} {s : tk} {ah en : Int32}
theorem tok_b (hX : RX S ct tp L) (hk : tko L s) (h : s.2.2 = 3) : ∃ b : Nat, b < 256 ∧ tp s.1 = nI b := hX.2.2.2.2.2.1 s.1 (by have := hk.1; have := hk.2.2.1; have := hX.2.2.2.1.2; omega)
theorem tok_w (hX : RX S ct tp L) (hk : tko L s) (h : tokA ah en tp s) : ah = -2 ↔ s.2.2 = 1 := by
  rcases h with ⟨h1, h2⟩ | ⟨h1, h2, h3⟩ | ⟨h1, h2, h3⟩ | ⟨h1, h2, h3⟩ | ⟨h1, h2 | ⟨h2, h3, h4⟩⟩
  · rw [h1, h2]; decide
  · rw [h1, h2]; decide
  · rw [h1, h2]; decide
  · obtain ⟨b, hb, eb⟩ := tok_b hX hk h1
    rw [h1, h2, eb]
    exact ⟨fun q => absurd q (nI_m hb (k := 2) (by decide) (by decide)), fun q => absurd q (by decide)⟩
  · rw [h1, h2]; decide
  · rw [h1, h2]; decide
theorem tok_e (hX : RX S ct tp L) (hk : tko L s) (h : tokA ah en tp s) : ah = -1 ↔ s.2.2 = 0 := by
  rcases h with ⟨h1, h2⟩ | ⟨h1, h2, h3⟩ | ⟨h1, h2, h3⟩ | ⟨h1, h2, h3⟩ | ⟨h1, h2 | ⟨h2, h3, h4⟩⟩
  · rw [h1, h2]; decide
  · rw [h1, h2]; decide
  · rw [h1, h2]; decide
  · obtain ⟨b, hb, eb⟩ := tok_b hX hk h1
    rw [h1, h2, eb]
    exact ⟨fun q => absurd q (nI_m hb (k := 1) (by decide) (by decide)), fun q => absurd q (by decide)⟩
  · rw [h1, h2]; decide
  · rw [h1, h2]; decide
theorem tok_n (hX : RX S ct tp L) (hk : tko L s) (h : tokA ah en tp s) : ah = -3 ↔ (s.2.2 = 2 ∨ (s.2.2 = 4 ∧ ah = -3 ∧ en = nI s.2.1 ∧ 4 < s.2.1 - s.1)) := by
  rcases h with ⟨h1, h2⟩ | ⟨h1, h2, h3⟩ | ⟨h1, h2, h3⟩ | ⟨h1, h2, h3⟩ | ⟨h1, h2 | ⟨h2, h3, h4⟩⟩
  · rw [h1, h2]; exact ⟨fun q => absurd q (by decide), fun q => by omega⟩
  · rw [h1, h2]; exact ⟨fun q => absurd q (by decide), fun q => by omega⟩
  · exact ⟨fun _ => Or.inl h1, fun _ => h2⟩
  · obtain ⟨b, hb, eb⟩ := tok_b hX hk h1
    rw [h1, h2, eb]
    exact ⟨fun q => absurd q (nI_m hb (k := 3) (by decide) (by decide)), fun q => by omega⟩
  · exact ⟨fun q => absurd (h2.symm.trans q) (by decide), fun q => q.elim (fun w => by omega) (fun w => w.2.1)⟩
  · exact ⟨fun _ => Or.inr ⟨h1, h2, h3, h4⟩, fun _ => h2⟩
theorem tok_s (hX : RX S ct tp L) (hk : tko L s) (h : tokA ah en tp s) {c : Nat} (hc : c < 256) : ah = nI c ↔ (s.2.2 = 3 ∧ tp s.1 = nI c) := by
  have m1 : ¬ nI c = -1 := nI_m hc (k := 1) (by decide) (by decide)
  have m2 : ¬ nI c = -2 := nI_m hc (k := 2) (by decide) (by decide)
  have m3 : ¬ nI c = -3 := nI_m hc (k := 3) (by decide) (by decide)
  have m4 : ¬ nI c = -4 := nI_m hc (k := 4) (by decide) (by decide)
  rcases h with ⟨h1, h2⟩ | ⟨h1, h2, h3⟩ | ⟨h1, h2, h3⟩ | ⟨h1, h2, h3⟩ | ⟨h1, h2 | ⟨h2, h3, h4⟩⟩
  · rw [h1, h2]; exact ⟨fun q => absurd q.symm m1, fun q => by omega⟩
  · rw [h1, h2]; exact ⟨fun q => absurd q.symm m2, fun q => by omega⟩
  · rw [h1, h2]; exact ⟨fun q => absurd q.symm m3, fun q => by omega⟩
  · rw [h2]; exact ⟨fun q => ⟨h1, q⟩, fun q => q.2⟩
  · rw [h1, h2]; exact ⟨fun q => absurd q.symm m4, fun q => by omega⟩
  · rw [h1, h2]; exact ⟨fun q => absurd q.symm m3, fun q => by omega⟩
theorem tok_en (h : tokA ah en tp s) (h1 : s.2.2 = 1 ∨ s.2.2 = 2 ∨ s.2.2 = 3) : en = nI s.2.1 := by
  rcases h with ⟨q, _⟩ | ⟨_, _, h3⟩ | ⟨_, _, h3⟩ | ⟨_, _, h3⟩ | ⟨q, _⟩
  · omega
  · exact h3
  · exact h3
  · exact h3
  · omega
theorem tok_t (hX : RX S ct tp L) (hk : tko L s) (h : tokA ah en tp s) (h4 : s.2.2 ≠ 4) : (ah = -2 ∨ ah = -3) ↔ (s.2.2 = 1 ∨ s.2.2 = 2) := by
  rw [tok_w hX hk h, tok_n hX hk h]
  exact ⟨fun q => q.elim Or.inl (fun w => w.elim Or.inr (fun u => absurd u.1 h4)), fun q => q.elim Or.inl (fun w => Or.inr (Or.inl w))⟩
/-- going on from a word, a number, a sign -/
theorem r_goS {x : pX} {d : Nat} {Q : pS → Prop} (hX : RX S ct tp L) (hk : tko L s) (hT : RT S ct tp s) (h1 : s.2.2 = 1 ∨ s.2.2 = 2 ∨ s.2.2 = 3) (h : ∀ S2, fg ct S S2 → RT S2 ct tp (nxs tp L s) → Q S2) : PV x (d + 3) M_X1_goOn [.ref (ct 0)] S Q := r_goOn hX (t := s.2.2) hk.1 (tok_en hT.2 h1) (tok_t hX hk hT.2 (by omega)) h
end TOK
set_option maxRecDepth 100000 in
set_option maxHeartbeats 1000000 in
theorem r_word_L {x : pX} {d : Nat} {S : pS} {b : Nat × Nat} {Q : Int32 → pS → Prop} {ct : Nat → Nat} {tp : Nat → Int32} {L : Nat} (hX : RX S ct tp L) {a bb : Nat} {cs : List Nat} (hj : XJ x) (hs : STR x a bb cs) {s : tk} (hko : tko L s) (h4 : gI S 34 (ct 0) = nI s.1) (hl : s.1 + cs.length ≤ L) (h1 : (∀ i, i < cs.length → tp (s.1 + i) = nI (cs.getD i 0)) → Q 1 S) (h0 : ¬ (∀ i, i < cs.length → tp (s.1 + i) = nI (cs.getD i 0)) → Q 0 S) : ∀ (c k : Nat), k + c = cs.length → (∀ i, i < k → tp (s.1 + i) = nI (cs.getD i 0)) → V x (d + 6) M_X1_isWord (qi Q) b 29 [(0, .ref ((ct 0))), (1, .ref a), (2, .int (nI k))] [] S := by
  intro c
  induction c with
  | zero =>
    intro k hk hm
    have h96 := hX.2.2.2.1.2
    have k1 := hko.1
    have k2 := hko.2.1
    have l100 := hs.2.2.2.2.2
    refine V_iln (pc := 29) dX1_isWord_29 rfl rfl ?_
    refine V_aln (pc := 30) dX1_isWord_30 rfl rfl ?_
    refine V_cXi0 (pc := 31) (jc_X1_89 dX1_isWord_31 rfl) rfl rfl (Nat.le_of_ble_eq_true rfl) hs.1 ?_
    refine j_length hj hs ?_
    refine V_cge (pc := 34) (t := 66) dX1_isWord_34 (by decide) (fun h34 => ?_) (fun h34 => ?_)
    · refine V_iconst (pc := 66) (v := 1) dX1_isWord_66 (by decide) ?_
      refine V_iret (pc := 67) dX1_isWord_67 rfl rfl ?_
      exact h1 (fun i hi => hm i (by omega))
    · exact absurd (nI_le (by omega) (by omega)) h34
  | succ c ih =>
    intro k hk hm
    have h96 := hX.2.2.2.1.2
    have k1 := hko.1
    have k2 := hko.2.1
    have l100 := hs.2.2.2.2.2
    refine V_iln (pc := 29) dX1_isWord_29 rfl rfl ?_
    refine V_aln (pc := 30) dX1_isWord_30 rfl rfl ?_
    refine V_cXi0 (pc := 31) (jc_X1_89 dX1_isWord_31 rfl) rfl rfl (Nat.le_of_ble_eq_true rfl) hs.1 ?_
    refine j_length hj hs ?_
    refine V_cge (pc := 34) (t := 66) dX1_isWord_34 (by decide) (fun h34 => ?_) (fun h34 => ?_)
    · exact absurd h34 (nI_ge (by omega) (by omega))
    · refine V_aln (pc := 37) dX1_isWord_37 rfl rfl ?_
      refine V_gr (pc := 38) 1 0 32 dX1_isWord_38 (FL_X1_12 rfl) rfl rfl hX.1.1 hX.2.2.1.1 ?_
      refine V_aln (pc := 41) dX1_isWord_41 rfl rfl ?_
      refine V_gie (pc := 42) 1 2 34 dX1_isWord_42 (FL_X1_26 rfl) rfl rfl hX.1.1 rfl ?_
      refine V_iln (pc := 45) dX1_isWord_45 rfl rfl ?_
      refine V_iadd (pc := 46) dX1_isWord_46 ?_
      refine V_cVi0 (pc := 47) (jc_X1_78 dX1_isWord_47 rfl) rfl rfl (Nat.le_of_ble_eq_true rfl) hX.1.2.1 ?_
      rw [h4, nI_add]
      refine t_byteAt hX.1.2.1 hX.2.2.1.2.2 hX.1.2.2.1 hX.2.1.1 hX.2.2.2.1.1 h96 (fun j hj_ ej tj => ?_) (fun j0 => absurd ⟨by rw [nI_toInt (by omega)]; omega, by rw [nI_toInt (by omega)]; omega⟩ j0)
      · have e2 : s.1 + k = j := (nI_eq (by omega) (by omega)).mp ej
        subst e2
        rw [hX.2.2.2.2.1 _ (by omega)]
        refine V_aln (pc := 50) dX1_isWord_50 rfl rfl ?_
        refine V_iln (pc := 51) dX1_isWord_51 rfl rfl ?_
        refine V_cXi0 (pc := 52) (jc_X1_94 dX1_isWord_52 rfl) rfl rfl (Nat.le_of_ble_eq_true rfl) hs.1 ?_
        refine j_charAt hj hs (by omega) ?_
        refine V_ceq (pc := 55) (t := 60) dX1_isWord_55 (by decide) (fun h55 => ?_) (fun h55 => ?_)
        · refine V_inc (pc := 60) (fun y => [(0, .ref ((ct 0))), (1, .ref a), (2, .int y)]) (w := 1) dX1_isWord_60 (by decide) (by decide) rfl (fun _ => rfl) (fun y60 ey60 => ?_)
          obtain rfl : y60 = nI (k + 1) := by rw [ey60]; exact nI_1 _
          refine V_goto (pc := 63) (t := 29) dX1_isWord_63 (by decide) ?_
          exact ih (k + 1) (by omega) (fun i hi => by rcases (show i < k ∨ i = k by omega) with w | w; exact hm i w; subst w; exact h55)
        · refine V_iconst (pc := 58) (v := 0) dX1_isWord_58 (by decide) ?_
          refine V_iret (pc := 59) dX1_isWord_59 rfl rfl ?_
          exact h0 (fun q => h55 (q k (by omega)))
set_option maxRecDepth 100000 in
set_option maxHeartbeats 1000000 in
theorem r_isWord {x : pX} {d : Nat} {S : pS} {Q : Int32 → pS → Prop} {ct : Nat → Nat} {tp : Nat → Int32} {L : Nat} (hX : RX S ct tp L) {a bb : Nat} {cs : List Nat} (hj : XJ x) (hs : STR x a bb cs) {s : tk} (hk : tko L s) (hT : RT S ct tp s) (h1 : s.2.2 = 1 → s.2.1 - s.1 = cs.length → (∀ i, i < cs.length → tp (s.1 + i) = nI (cs.getD i 0)) → Q 1 S) (h0 : ¬ (s.2.2 = 1 ∧ s.2.1 - s.1 = cs.length ∧ ∀ i, i < cs.length → tp (s.1 + i) = nI (cs.getD i 0)) → Q 0 S) : PI x (d + 6) M_X1_isWord [.ref ((ct 0)), .ref a] S Q := by
  have h96 := hX.2.2.2.1.2
  have k1 := hk.1
  have k2 := hk.2.1
  have l100 := hs.2.2.2.2.2
  refine PM_of (by decide +kernel) (Nat.le_of_ble_eq_true rfl) ?_
  show V x (d + 6) M_X1_isWord (qi Q) (0, 0) 0 [(0, .ref ((ct 0))), (1, .ref a)] [] S
  refine V_aln (pc := 0) dX1_isWord_0 rfl rfl ?_
  refine V_gie (pc := 1) 1 1 33 dX1_isWord_1 (FL_X1_22 rfl) rfl rfl hX.1.1 rfl ?_
  refine V_bipush (pc := 4) (v := (-2)) dX1_isWord_4 (by decide) ?_
  refine V_cne (pc := 6) (t := 25) dX1_isWord_6 (by decide) (fun h6 => ?_) (fun h6 => ?_)
  · have n1 : ¬ s.2.2 = 1 := fun q => h6 ((tok_w hX hk hT.2).mpr q)
    refine V_iconst (pc := 25) (v := 0) dX1_isWord_25 (by decide) ?_
    refine V_iret (pc := 26) dX1_isWord_26 rfl rfl ?_
    first
      | exact h0 (fun q => n1 q.1)
      | exact h0 (fun q => ln q.2.1)
  · have y1 : s.2.2 = 1 := (tok_w hX hk hT.2).mp h6
    have en := tok_en hT.2 (Or.inl y1)
    refine V_aln (pc := 9) dX1_isWord_9 rfl rfl ?_
    refine V_gie (pc := 10) 1 3 35 dX1_isWord_10 (FL_X1_29 rfl) rfl rfl hX.1.1 rfl ?_
    refine V_aln (pc := 13) dX1_isWord_13 rfl rfl ?_
    refine V_gie (pc := 14) 1 2 34 dX1_isWord_14 (FL_X1_26 rfl) rfl rfl hX.1.1 rfl ?_
    refine V_isub (pc := 17) dX1_isWord_17 ?_
    refine V_aln (pc := 18) dX1_isWord_18 rfl rfl ?_
    refine V_cXi0 (pc := 19) (jc_X1_89 dX1_isWord_19 rfl) rfl rfl (Nat.le_of_ble_eq_true rfl) hs.1 ?_
    refine j_length hj hs ?_
    refine V_ceq (pc := 22) (t := 27) dX1_isWord_22 (by decide) (fun h22 => ?_) (fun h22 => ?_)
    · rw [en, hT.1, nI_sub k2] at h22
      have ln := (nI_eq (by omega) (by omega)).mp h22
      refine V_iconst (pc := 27) (v := 0) dX1_isWord_27 (by decide) ?_
      refine V_isn (pc := 28) (fun y => [(0, .ref ((ct 0))), (1, .ref a), (2, .int y)]) dX1_isWord_28 rfl (by decide) (fun _ => rfl) (fun y28 ey28 => ?_)
      obtain rfl : y28 = nI 0 := ey28
      exact r_word_L hX hj hs hk hT.1 (by omega) (h1 y1 ln) (fun q => h0 (fun w => q w.2.2)) cs.length 0 (by omega) (fun i hi => absurd hi (by omega))
    · rw [en, hT.1, nI_sub k2] at h22
      have ln : ¬ s.2.1 - s.1 = cs.length := fun q => h22 (by rw [q])
      refine V_iconst (pc := 25) (v := 0) dX1_isWord_25 (by decide) ?_
      refine V_iret (pc := 26) dX1_isWord_26 rfl rfl ?_
      first
        | exact h0 (fun q => n1 q.1)
        | exact h0 (fun q => ln q.2.1)
/-- the Strings of the reader -/
def XS (x : pX) : Prop := XJ x ∧ (∃ a b, (RX1, 98, "wear", a) ∈ x.2.2.2.2 ∧ STR x a b [119, 101, 97, 114]) ∧ (∃ a b, (RX1, 104, "law", a) ∈ x.2.2.2.2 ∧ STR x a b [108, 97, 119]) ∧ (∃ a b, (RX1, 106, "fine", a) ∈ x.2.2.2.2 ∧ STR x a b [102, 105, 110, 101]) ∧ (∃ a b, (RX1, 131, "gts", a) ∈ x.2.2.2.2 ∧ STR x a b [103, 116, 115]) ∧ (∃ a b, (RX1, 133, "sd", a) ∈ x.2.2.2.2 ∧ STR x a b [115, 100]) ∧ (∃ a b, (RX1, 135, "lt", a) ∈ x.2.2.2.2 ∧ STR x a b [108, 116])
theorem wd4_i {tp : Nat → Int32} {s : tk} {a b c e : Nat} : (s.2.2 = 1 ∧ s.2.1 - s.1 = [a, b, c, e].length ∧ ∀ i, i < [a, b, c, e].length → tp (s.1 + i) = nI ([a, b, c, e].getD i 0)) ↔ wd4 tp s (nI a) (nI b) (nI c) (nI e) := by
  constructor
  · rintro ⟨h1, h2, h3⟩
    exact ⟨h1, h2, h3 0 (show 0 < 4 by decide), h3 1 (show 1 < 4 by decide), h3 2 (show 2 < 4 by decide), h3 3 (show 3 < 4 by decide)⟩
  · rintro ⟨h1, h2, h3, h4, h5, h6⟩
    refine ⟨h1, h2, fun i hi => ?_⟩
    match i, hi with
    | 0, _ => exact h3
    | 1, _ => exact h4
    | 2, _ => exact h5
    | 3, _ => exact h6
theorem wd3_i {tp : Nat → Int32} {s : tk} {a b c : Nat} : (s.2.2 = 1 ∧ s.2.1 - s.1 = [a, b, c].length ∧ ∀ i, i < [a, b, c].length → tp (s.1 + i) = nI ([a, b, c].getD i 0)) ↔ wd3 tp s (nI a) (nI b) (nI c) := by
  constructor
  · rintro ⟨h1, h2, h3⟩
    exact ⟨h1, h2, h3 0 (show 0 < 3 by decide), h3 1 (show 1 < 3 by decide), h3 2 (show 2 < 3 by decide)⟩
  · rintro ⟨h1, h2, h3, h4, h5⟩
    refine ⟨h1, h2, fun i hi => ?_⟩
    match i, hi with
    | 0, _ => exact h3
    | 1, _ => exact h4
    | 2, _ => exact h5
set_option maxRecDepth 100000 in
set_option maxHeartbeats 1000000 in
theorem r_readKey {x : pX} {d : Nat} {S : pS} {Q : pS → Prop} {ct : Nat → Nat} {tp : Nat → Int32} {L : Nat} (hX : RX S ct tp L) (hx : XS x) {s : tk} (hk : tko L s) (hT : RT S ct tp s) (h36 : gI S 36 (ct 0) = -1) (h1 : ¬ fkey tp s < 0 → s.2.2 = 1 → ∀ S2, fr (rT ct) S S2 → RT S2 ct tp (nxs tp L s) → gI S2 37 (ct 0) = fkey tp s → (∀ f, (35 < f ∧ f ≠ 37) → gI S2 f (ct 0) = gI S f (ct 0)) → Q S2) (h0 : fkey tp s < 0 → Q (sI S 36 (ct 0) (nI s.1))) : PV x (d + 7) M_X1_readKey [.ref ((ct 0))] S Q := by
  obtain ⟨aw, bw, mw, sw⟩ := hx.2.1
  obtain ⟨al_, bl, ml, sl⟩ := hx.2.2.1
  obtain ⟨af, bf, mf, sf⟩ := hx.2.2.2.1
  refine PM_of (by decide +kernel) (Nat.le_of_ble_eq_true rfl) ?_
  show V x (d + 7) M_X1_readKey (qv Q) (0, 0) 0 [(0, .ref ((ct 0)))] [] S
  refine V_aln (pc := 0) dX1_readKey_0 rfl rfl ?_
  refine V_str (pc := 1) dX1_readKey_1 mw ?_
  refine V_cVi0 (pc := 3) (jc_X1_100 dX1_readKey_3 rfl) rfl rfl (Nat.le_of_ble_eq_true rfl) hX.1.1 ?_
  refine r_isWord hX hx.1 sw hk hT (fun p1 p2 p3 => ?_) (fun p0 => ?_)
  · have yw : wd4 tp s 119 101 97 114 := wd4_i (a := 119) (b := 101) (c := 97) (e := 114).mp ⟨p1, p2, p3⟩
    refine V_eq (pc := 6) (t := 17) dX1_readKey_6 (by decide) (fun h => absurd h (by decide)) (fun _ => ?_)
    refine V_aln (pc := 9) dX1_readKey_9 rfl rfl ?_
    refine V_iconst (pc := 10) (v := 0) dX1_readKey_10 (by decide) ?_
    refine V_pi (pc := 11) 1 5 37 dX1_readKey_11 (FL_X1_56 rfl) rfl rfl rfl hX.1.1 ?_
    refine V_goto (pc := 14) (t := 56) dX1_readKey_14 (by decide) ?_
    refine V_aln (pc := 56) dX1_readKey_56 rfl rfl ?_
    refine V_cVv0 (pc := 57) (jc_X1_41 dX1_readKey_57 rfl) rfl rfl (Nat.le_of_ble_eq_true rfl) hX.1.1 ?_
    have kf : fkey tp s = 0 := by unfold fkey; rw [if_pos yw]
    have ys : s.2.2 = 1 := yw.1
    refine r_goS (s := s) (hX.f (fr.rf.sI (Or.inl rfl) 37 (0))) hk ⟨by rw [gI_sI, if_neg (by omega)]; exact hT.1, by rw [gI_sI, if_neg (by omega), gI_sI, if_neg (by omega)]; exact hT.2⟩ (Or.inl ys) (fun S2 f2 T2 => ?_)
    refine V_ret (pc := 60) dX1_readKey_60 rfl ?_
    refine h1 (by rw [kf]; decide) ys S2 ((fr.rf.sI (Or.inl rfl) 37 _).tr f2.r) T2 (by rw [kf, f2.2 37 (by omega), gI_sI, if_pos ⟨rfl, rfl⟩]) (fun f hf => by rw [f2.2 f (by omega), gI_sI, if_neg (by omega)])
  · have nw : ¬ wd4 tp s 119 101 97 114 := fun q => p0 (wd4_i (a := 119) (b := 101) (c := 97) (e := 114).mpr q)
    refine V_eq (pc := 6) (t := 17) dX1_readKey_6 (by decide) (fun _ => ?_) (fun h => absurd h (by decide))
    refine V_aln (pc := 17) dX1_readKey_17 rfl rfl ?_
    refine V_str (pc := 18) dX1_readKey_18 ml ?_
    refine V_cVi0 (pc := 20) (jc_X1_100 dX1_readKey_20 rfl) rfl rfl (Nat.le_of_ble_eq_true rfl) hX.1.1 ?_
    refine r_isWord hX hx.1 sl hk hT (fun p1 p2 p3 => ?_) (fun p0 => ?_)
    · have yl : wd3 tp s 108 97 119 := wd3_i (a := 108) (b := 97) (c := 119).mp ⟨p1, p2, p3⟩
      refine V_eq (pc := 23) (t := 34) dX1_readKey_23 (by decide) (fun h => absurd h (by decide)) (fun _ => ?_)
      refine V_aln (pc := 26) dX1_readKey_26 rfl rfl ?_
      refine V_iconst (pc := 27) (v := 1) dX1_readKey_27 (by decide) ?_
      refine V_pi (pc := 28) 1 5 37 dX1_readKey_28 (FL_X1_56 rfl) rfl rfl rfl hX.1.1 ?_
      refine V_goto (pc := 31) (t := 56) dX1_readKey_31 (by decide) ?_
      refine V_aln (pc := 56) dX1_readKey_56 rfl rfl ?_
      refine V_cVv0 (pc := 57) (jc_X1_41 dX1_readKey_57 rfl) rfl rfl (Nat.le_of_ble_eq_true rfl) hX.1.1 ?_
      have kf : fkey tp s = 1 := by unfold fkey; rw [if_neg nw, if_pos yl]
      have ys : s.2.2 = 1 := yl.1
      refine r_goS (s := s) (hX.f (fr.rf.sI (Or.inl rfl) 37 (1))) hk ⟨by rw [gI_sI, if_neg (by omega)]; exact hT.1, by rw [gI_sI, if_neg (by omega), gI_sI, if_neg (by omega)]; exact hT.2⟩ (Or.inl ys) (fun S2 f2 T2 => ?_)
      refine V_ret (pc := 60) dX1_readKey_60 rfl ?_
      refine h1 (by rw [kf]; decide) ys S2 ((fr.rf.sI (Or.inl rfl) 37 _).tr f2.r) T2 (by rw [kf, f2.2 37 (by omega), gI_sI, if_pos ⟨rfl, rfl⟩]) (fun f hf => by rw [f2.2 f (by omega), gI_sI, if_neg (by omega)])
    · have nl : ¬ wd3 tp s 108 97 119 := fun q => p0 (wd3_i (a := 108) (b := 97) (c := 119).mpr q)
      refine V_eq (pc := 23) (t := 34) dX1_readKey_23 (by decide) (fun _ => ?_) (fun h => absurd h (by decide))
      refine V_aln (pc := 34) dX1_readKey_34 rfl rfl ?_
      refine V_str (pc := 35) dX1_readKey_35 mf ?_
      refine V_cVi0 (pc := 37) (jc_X1_100 dX1_readKey_37 rfl) rfl rfl (Nat.le_of_ble_eq_true rfl) hX.1.1 ?_
      refine r_isWord hX hx.1 sf hk hT (fun p1 p2 p3 => ?_) (fun p0 => ?_)
      · have yf : wd4 tp s 102 105 110 101 := wd4_i (a := 102) (b := 105) (c := 110) (e := 101).mp ⟨p1, p2, p3⟩
        refine V_eq (pc := 40) (t := 51) dX1_readKey_40 (by decide) (fun h => absurd h (by decide)) (fun _ => ?_)
        refine V_aln (pc := 43) dX1_readKey_43 rfl rfl ?_
        refine V_iconst (pc := 44) (v := 2) dX1_readKey_44 (by decide) ?_
        refine V_pi (pc := 45) 1 5 37 dX1_readKey_45 (FL_X1_56 rfl) rfl rfl rfl hX.1.1 ?_
        refine V_goto (pc := 48) (t := 56) dX1_readKey_48 (by decide) ?_
        refine V_aln (pc := 56) dX1_readKey_56 rfl rfl ?_
        refine V_cVv0 (pc := 57) (jc_X1_41 dX1_readKey_57 rfl) rfl rfl (Nat.le_of_ble_eq_true rfl) hX.1.1 ?_
        have kf : fkey tp s = 2 := by unfold fkey; rw [if_neg nw, if_neg nl, if_pos yf]
        have ys : s.2.2 = 1 := yf.1
        refine r_goS (s := s) (hX.f (fr.rf.sI (Or.inl rfl) 37 (2))) hk ⟨by rw [gI_sI, if_neg (by omega)]; exact hT.1, by rw [gI_sI, if_neg (by omega), gI_sI, if_neg (by omega)]; exact hT.2⟩ (Or.inl ys) (fun S2 f2 T2 => ?_)
        refine V_ret (pc := 60) dX1_readKey_60 rfl ?_
        refine h1 (by rw [kf]; decide) ys S2 ((fr.rf.sI (Or.inl rfl) 37 _).tr f2.r) T2 (by rw [kf, f2.2 37 (by omega), gI_sI, if_pos ⟨rfl, rfl⟩]) (fun f hf => by rw [f2.2 f (by omega), gI_sI, if_neg (by omega)])
      · have nf : ¬ wd4 tp s 102 105 110 101 := fun q => p0 (wd4_i (a := 102) (b := 105) (c := 110) (e := 101).mpr q)
        refine V_eq (pc := 40) (t := 51) dX1_readKey_40 (by decide) (fun _ => ?_) (fun h => absurd h (by decide))
        refine V_aln (pc := 51) dX1_readKey_51 rfl rfl ?_
        refine V_cVv0 (pc := 52) (jc_X1_51 dX1_readKey_52 rfl) rfl rfl (Nat.le_of_ble_eq_true rfl) hX.1.1 ?_
        have kf : fkey tp s = -1 := by unfold fkey; rw [if_neg nw, if_neg nl, if_neg nf]
        refine r_stop hX.1.1 (fun _ => ?_) (fun q => absurd h36 q)
        rw [hT.1]
        refine V_ret (pc := 55) dX1_readKey_55 rfl ?_
        exact h0 (by rw [kf]; decide)
set_option maxRecDepth 100000 in
set_option maxHeartbeats 1000000 in
theorem r_num_L {x : pX} {d : Nat} {S : pS} {b : Nat × Nat} {Q : Int32 → pS → Prop} {ct : Nat → Nat} {tp : Nat → Int32} {L : Nat} (hX : RX S ct tp L) {p q : Nat} (hp : p ≤ q) (hq : q ≤ L) (h5 : gI S 35 (ct 0) = nI q) (h : Q (dgt tp p (q - p)) S) : ∀ (c k : Nat), k + c = q - p → V x (d + 2) M_X1_numberAhead (qi Q) b 22 [(0, .ref ((ct 0))), (1, .int (dgt tp p k)), (2, .int (nI (p + k)))] [] S := by
  intro c
  induction c with
  | zero =>
    intro k hk 
    have h96 := hX.2.2.2.1.2
    refine V_iln (pc := 22) dX1_numberAhead_22 rfl rfl ?_
    refine V_aln (pc := 23) dX1_numberAhead_23 rfl rfl ?_
    refine V_gie (pc := 24) 1 3 35 dX1_numberAhead_24 (FL_X1_29 rfl) rfl rfl hX.1.1 rfl ?_
    refine V_cge (pc := 27) (t := 53) dX1_numberAhead_27 (by decide) (fun h27 => ?_) (fun h27 => ?_)
    · refine V_iln (pc := 53) dX1_numberAhead_53 rfl rfl ?_
      refine V_iret (pc := 54) dX1_numberAhead_54 rfl rfl ?_
      obtain rfl : k = q - p := by omega
      exact h
    · exact absurd (by rw [h5]; exact nI_le (by omega) (by omega)) h27
  | succ c ih =>
    intro k hk 
    have h96 := hX.2.2.2.1.2
    refine V_iln (pc := 22) dX1_numberAhead_22 rfl rfl ?_
    refine V_aln (pc := 23) dX1_numberAhead_23 rfl rfl ?_
    refine V_gie (pc := 24) 1 3 35 dX1_numberAhead_24 (FL_X1_29 rfl) rfl rfl hX.1.1 rfl ?_
    refine V_cge (pc := 27) (t := 53) dX1_numberAhead_27 (by decide) (fun h27 => ?_) (fun h27 => ?_)
    · exact absurd h27 (by rw [h5]; exact nI_ge (by omega) (by omega))
    · refine V_bipush (pc := 30) (v := 10) dX1_numberAhead_30 (by decide) ?_
      refine V_iln (pc := 32) dX1_numberAhead_32 rfl rfl ?_
      refine V_imul (pc := 33) dX1_numberAhead_33 ?_
      refine V_aln (pc := 34) dX1_numberAhead_34 rfl rfl ?_
      refine V_gr (pc := 35) 1 0 32 dX1_numberAhead_35 (FL_X1_12 rfl) rfl rfl hX.1.1 hX.2.2.1.1 ?_
      refine V_iln (pc := 38) dX1_numberAhead_38 rfl rfl ?_
      refine V_cVi0 (pc := 39) (jc_X1_78 dX1_numberAhead_39 rfl) rfl rfl (Nat.le_of_ble_eq_true rfl) hX.1.2.1 ?_
      refine t_byteAt hX.1.2.1 hX.2.2.1.2.2 hX.1.2.2.1 hX.2.1.1 hX.2.2.2.1.1 h96 (fun j hj_ ej tj => ?_) (fun j0 => absurd ⟨by rw [nI_toInt (by omega)]; omega, by rw [nI_toInt (by omega)]; omega⟩ j0)
      · have e2 : p + k = j := (nI_eq (by omega) (by omega)).mp ej
        subst e2
        rw [hX.2.2.2.2.1 _ (by omega)]
        refine V_iadd (pc := 42) dX1_numberAhead_42 ?_
        refine V_bipush (pc := 43) (v := 48) dX1_numberAhead_43 (by decide) ?_
        refine V_isub (pc := 45) dX1_numberAhead_45 ?_
        refine V_isn (pc := 46) (fun y => [(0, .ref ((ct 0))), (1, .int y), (2, .int (nI (p + k)))]) dX1_numberAhead_46 rfl (by decide) (fun _ => rfl) (fun y46 ey46 => ?_)
        refine V_inc (pc := 47) (fun y => [(0, .ref ((ct 0))), (1, .int y46), (2, .int y)]) (w := 1) dX1_numberAhead_47 (by decide) (by decide) rfl (fun _ => rfl) (fun y47 ey47 => ?_)
        obtain rfl : y47 = nI ((p + k) + 1) := by rw [ey47]; exact nI_1 _
        refine V_goto (pc := 50) (t := 22) dX1_numberAhead_50 (by decide) ?_
        have e1 : y46 = dgt tp p (k + 1) := ey46
        subst e1
        exact ih (k + 1) (by omega)
set_option maxRecDepth 100000 in
set_option maxHeartbeats 1000000 in
theorem r_number {x : pX} {d : Nat} {S : pS} {Q : Int32 → pS → Prop} {ct : Nat → Nat} {tp : Nat → Int32} {L : Nat} (hX : RX S ct tp L) {p q : Nat} (hp : p ≤ q) (hq : q ≤ L) (h4 : gI S 34 (ct 0) = nI p) (h5 : gI S 35 (ct 0) = nI q) (h1 : q - p ≤ 4 → Q (dgt tp p (q - p)) S) (h0 : 4 < q - p → Q (-1) S) : PI x (d + 2) M_X1_numberAhead [.ref ((ct 0))] S Q := by
  have h96 := hX.2.2.2.1.2
  refine PM_of (by decide +kernel) (Nat.le_of_ble_eq_true rfl) ?_
  show V x (d + 2) M_X1_numberAhead (qi Q) (0, 0) 0 [(0, .ref ((ct 0)))] [] S
  refine V_aln (pc := 0) dX1_numberAhead_0 rfl rfl ?_
  refine V_gie (pc := 1) 1 3 35 dX1_numberAhead_1 (FL_X1_29 rfl) rfl rfl hX.1.1 rfl ?_
  refine V_aln (pc := 4) dX1_numberAhead_4 rfl rfl ?_
  refine V_gie (pc := 5) 1 2 34 dX1_numberAhead_5 (FL_X1_26 rfl) rfl rfl hX.1.1 rfl ?_
  refine V_isub (pc := 8) dX1_numberAhead_8 ?_
  refine V_iconst (pc := 9) (v := 4) dX1_numberAhead_9 (by decide) ?_
  refine V_cle (pc := 10) (t := 15) dX1_numberAhead_10 (by decide) (fun h10 => ?_) (fun h10 => ?_)
  · rw [h5, h4, nI_sub hp] at h10
    have l4 : q - p ≤ 4 := Nat.le_of_not_lt (fun w => nI_ge (a := 4) w (by omega) h10)
    refine V_iconst (pc := 15) (v := 0) dX1_numberAhead_15 (by decide) ?_
    refine V_isn (pc := 16) (fun y => [(0, .ref ((ct 0))), (1, .int y)]) dX1_numberAhead_16 rfl (by decide) (fun _ => rfl) (fun y16 ey16 => ?_)
    refine V_aln (pc := 17) dX1_numberAhead_17 rfl rfl ?_
    refine V_gie (pc := 18) 1 2 34 dX1_numberAhead_18 (FL_X1_26 rfl) rfl rfl hX.1.1 rfl ?_
    refine V_isn (pc := 21) (fun y => [(0, .ref ((ct 0))), (1, .int y16), (2, .int y)]) dX1_numberAhead_21 rfl (by decide) (fun _ => rfl) (fun y21 ey21 => ?_)
    obtain rfl : y21 = nI (p + 0) := by rw [ey21]; exact h4
    subst ey16
    exact r_num_L hX hp hq h5 (h1 l4) (q - p) 0 (by omega)
  · rw [h5, h4, nI_sub hp] at h10
    have l4 : 4 < q - p := Nat.lt_of_not_le (fun w => h10 (nI_le (b := 4) w (by decide)))
    refine V_iconst (pc := 13) (v := (-1)) dX1_numberAhead_13 (by decide) ?_
    refine V_iret (pc := 14) dX1_numberAhead_14 rfl rfl ?_
    exact h0 l4
