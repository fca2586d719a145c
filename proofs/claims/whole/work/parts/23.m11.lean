/-! ===== the model: words and signs of the tape ===== -/
/-- ints alike but for those of the word ahead -/
def fo6 (F F2 : Nat → Int32) : Prop := ∀ f, (f < 302 ∨ 306 < f) → F2 f = F f
theorem fo6.rf {F : Nat → Int32} : fo6 F F := fun _ _ => rfl
theorem fo6.tr {F G H : Nat → Int32} (h : fo6 F G) (h2 : fo6 G H) : fo6 F H := fun f q => (h2 f q).trans (h f q)
theorem fo6.up {F G : Nat → Int32} (h : fo6 F G) {k : Nat} (hk : 302 ≤ k ∧ k ≤ 306) (v : Int32) : fo6 F (va_up G k v) := fun f q => by rw [va_up_ne _ _ (by omega)]; exact h f q
/-- what is ahead, as the model holds it -/
def TS (F tp : Nat → Int32) (s : tk) : Prop := (F 302 = nI s.1 ∧ F 303 = nI s.2.1 ∧ F 304 = nI s.2.2) ∧ (s.2.2 = 1 → F 306 = if s.2.1 - s.1 = 1 then tp s.1 else 0) ∧ (s.2.2 = 2 → F 305 = dgt tp s.1 (s.2.1 - s.1)) ∧ (s.2.2 = 3 → F 306 = tp s.1)
set_option maxRecDepth 100000 in
set_option maxHeartbeats 4000000 in
theorem m_isLetter {x : pX} {d : Nat} {S : pS} {m : Nat} {as : Nat → Nat} {A : Nat → Nat → Int32} {F : Nat → Int32} {Q : Int32 → pS → Prop} (hM : MF S m as) {p L : Nat} {tp : Nat → Int32} (hT : A 300 = tp) (hL : F 301 = nI L) (h96 : L ≤ 96) (hp : p ≤ L) (h1 : p < L → inR tp 97 122 p → Q 1 (mP S m as A F)) (h0 : ¬ (p < L ∧ inR tp 97 122 p) → Q 0 (mP S m as A F)) : PI x (d + 2) M_X9_isLetter [.ref m, .int (nI p)] (mP S m as A F) Q := by
  refine PM_of (by decide +kernel) (Nat.le_of_ble_eq_true rfl) ?_
  show V x (d + 2) M_X9_isLetter (qi Q) (0, 0) 0 [(0, .ref m), (1, .int (nI p))] [] (mP S m as A F)
  refine V_iln (pc := 0) dX9_isLetter_0 rfl rfl ?_
  refine V_aln (pc := 1) dX9_isLetter_1 rfl rfl ?_
  refine M_gi (pc := 2) hM 13 301 dX9_isLetter_2 (FL_X9_199 rfl) rfl rfl ?_
  refine V_cge (pc := 5) (t := 31) dX9_isLetter_5 (by decide) (fun h5 => ?_) (fun h5 => ?_)
  · have hpl : ¬ p < L := fun q => nI_ge q (by omega) (by rw [hL] at h5; exact h5)
    refine V_iconst (pc := 31) (v := 0) dX9_isLetter_31 (by decide) ?_
    refine V_iret (pc := 32) dX9_isLetter_32 rfl rfl ?_
    first | exact h1 hpl ⟨a1, a2⟩ | exact h0 (fun q => hpl q.1) | exact h0 (fun q => a0 q.2)
  · have hpl : p < L := Nat.lt_of_not_le (fun q => h5 (by rw [hL]; exact nI_le q (by omega)))
    refine V_aln (pc := 8) dX9_isLetter_8 rfl rfl ?_
    refine M_gr (pc := 9) hM 12 300 dX9_isLetter_9 (FL_X9_43 rfl) rfl rfl (by decide) ?_
    refine V_iln (pc := 12) dX9_isLetter_12 rfl rfl ?_
    refine M_ia (pc := 13) hM 300 p dX9_isLetter_13 (by decide) (by decide) rfl (by show (_ : Nat) < 96; omega) ?_
    refine V_i2l (pc := 14) dX9_isLetter_14 ?_
    refine V_ldc2 (pc := 15) dX9_isLetter_15 (KC_X9_203 rfl) ?_
    refine V_ldc2 (pc := 18) dX9_isLetter_18 (KC_X9_205 rfl) ?_
    refine V_cSi0 (pc := 21) (jc_X9_62 dX9_isLetter_21 rfl) rfl rfl (Nat.le_of_ble_eq_true rfl) ?_
    refine m_isIn (l := 97) 97 122 (by decide) (by decide) (fun a1 a2 => ?_) (fun a0 => ?_)
    · rw [hT] at a1 a2
      refine V_eq (pc := 24) (t := 31) dX9_isLetter_24 (by decide) (fun h => absurd h (by decide)) (fun _ => ?_)
      refine V_iconst (pc := 27) (v := 1) dX9_isLetter_27 (by decide) ?_
      refine V_goto (pc := 28) (t := 32) dX9_isLetter_28 (by decide) ?_
      refine V_iret (pc := 32) dX9_isLetter_32 rfl rfl ?_
      first | exact h1 hpl ⟨a1, a2⟩ | exact h0 (fun q => hpl q.1) | exact h0 (fun q => a0 q.2)
    · rw [hT] at a0
      refine V_eq (pc := 24) (t := 31) dX9_isLetter_24 (by decide) (fun _ => ?_) (fun h => absurd h (by decide))
      refine V_iconst (pc := 31) (v := 0) dX9_isLetter_31 (by decide) ?_
      refine V_iret (pc := 32) dX9_isLetter_32 rfl rfl ?_
      first | exact h1 hpl ⟨a1, a2⟩ | exact h0 (fun q => hpl q.1) | exact h0 (fun q => a0 q.2)
set_option maxRecDepth 100000 in
set_option maxHeartbeats 4000000 in
theorem m_isDigit {x : pX} {d : Nat} {S : pS} {m : Nat} {as : Nat → Nat} {A : Nat → Nat → Int32} {F : Nat → Int32} {Q : Int32 → pS → Prop} (hM : MF S m as) {p L : Nat} {tp : Nat → Int32} (hT : A 300 = tp) (hL : F 301 = nI L) (h96 : L ≤ 96) (hp : p ≤ L) (h1 : p < L → inR tp 48 57 p → Q 1 (mP S m as A F)) (h0 : ¬ (p < L ∧ inR tp 48 57 p) → Q 0 (mP S m as A F)) : PI x (d + 2) M_X9_isDigit [.ref m, .int (nI p)] (mP S m as A F) Q := by
  refine PM_of (by decide +kernel) (Nat.le_of_ble_eq_true rfl) ?_
  show V x (d + 2) M_X9_isDigit (qi Q) (0, 0) 0 [(0, .ref m), (1, .int (nI p))] [] (mP S m as A F)
  refine V_iln (pc := 0) dX9_isDigit_0 rfl rfl ?_
  refine V_aln (pc := 1) dX9_isDigit_1 rfl rfl ?_
  refine M_gi (pc := 2) hM 13 301 dX9_isDigit_2 (FL_X9_199 rfl) rfl rfl ?_
  refine V_cge (pc := 5) (t := 31) dX9_isDigit_5 (by decide) (fun h5 => ?_) (fun h5 => ?_)
  · have hpl : ¬ p < L := fun q => nI_ge q (by omega) (by rw [hL] at h5; exact h5)
    refine V_iconst (pc := 31) (v := 0) dX9_isDigit_31 (by decide) ?_
    refine V_iret (pc := 32) dX9_isDigit_32 rfl rfl ?_
    first | exact h1 hpl ⟨a1, a2⟩ | exact h0 (fun q => hpl q.1) | exact h0 (fun q => a0 q.2)
  · have hpl : p < L := Nat.lt_of_not_le (fun q => h5 (by rw [hL]; exact nI_le q (by omega)))
    refine V_aln (pc := 8) dX9_isDigit_8 rfl rfl ?_
    refine M_gr (pc := 9) hM 12 300 dX9_isDigit_9 (FL_X9_43 rfl) rfl rfl (by decide) ?_
    refine V_iln (pc := 12) dX9_isDigit_12 rfl rfl ?_
    refine M_ia (pc := 13) hM 300 p dX9_isDigit_13 (by decide) (by decide) rfl (by show (_ : Nat) < 96; omega) ?_
    refine V_i2l (pc := 14) dX9_isDigit_14 ?_
    refine V_ldc2 (pc := 15) dX9_isDigit_15 (KC_X9_207 rfl) ?_
    refine V_ldc2 (pc := 18) dX9_isDigit_18 (KC_X9_209 rfl) ?_
    refine V_cSi0 (pc := 21) (jc_X9_62 dX9_isDigit_21 rfl) rfl rfl (Nat.le_of_ble_eq_true rfl) ?_
    refine m_isIn (l := 48) 48 57 (by decide) (by decide) (fun a1 a2 => ?_) (fun a0 => ?_)
    · rw [hT] at a1 a2
      refine V_eq (pc := 24) (t := 31) dX9_isDigit_24 (by decide) (fun h => absurd h (by decide)) (fun _ => ?_)
      refine V_iconst (pc := 27) (v := 1) dX9_isDigit_27 (by decide) ?_
      refine V_goto (pc := 28) (t := 32) dX9_isDigit_28 (by decide) ?_
      refine V_iret (pc := 32) dX9_isDigit_32 rfl rfl ?_
      first | exact h1 hpl ⟨a1, a2⟩ | exact h0 (fun q => hpl q.1) | exact h0 (fun q => a0 q.2)
    · rw [hT] at a0
      refine V_eq (pc := 24) (t := 31) dX9_isDigit_24 (by decide) (fun _ => ?_) (fun h => absurd h (by decide))
      refine V_iconst (pc := 31) (v := 0) dX9_isDigit_31 (by decide) ?_
      refine V_iret (pc := 32) dX9_isDigit_32 rfl rfl ?_
      first | exact h1 hpl ⟨a1, a2⟩ | exact h0 (fun q => hpl q.1) | exact h0 (fun q => a0 q.2)
set_option maxRecDepth 100000 in
set_option maxHeartbeats 4000000 in
theorem m_nt_sp {x : pX} {d : Nat} {S : pS} {m : Nat} {as : Nat → Nat} {b : Nat × Nat} {Q : pS → Prop} (hM : MF S m as) {A : Nat → Nat → Int32} {F0 tp : Nat → Int32} {L q : Nat} (hT : A 300 = tp) (hL : F0 301 = nI L) (h96 : L ≤ 96) {y1 y2 t : Int32} (kk : ∀ F, fo6 F0 F → F 303 = nI q → F 304 = t → V x (d + 3) M_X9_nextToken (qv Q) b 72 [(0, .ref m), (1, .int y1), (2, .int y2)] [] (mP S m as A F)) : ∀ (c k : Nat), k + c = L → ∀ F, fo6 F0 F → F 303 = nI k → F 304 = t → eor tp 32 32 c k = q → V x (d + 3) M_X9_nextToken (qv Q) b 34 [(0, .ref m), (1, .int y1), (2, .int y2)] [] (mP S m as A F) := by
  intro c
  induction c with
  | zero =>
    intro k hk F hF h3 h4 hq
    refine V_aln (pc := 34) dX9_nextToken_34 rfl rfl ?_
    refine M_gi (pc := 35) hM 15 303 dX9_nextToken_35 (FL_X9_211 rfl) rfl rfl ?_
    refine V_aln (pc := 38) dX9_nextToken_38 rfl rfl ?_
    refine M_gi (pc := 39) hM 13 301 dX9_nextToken_39 (FL_X9_199 rfl) rfl rfl ?_
    refine V_cge (pc := 42) (t := 72) dX9_nextToken_42 (by decide) (fun h42 => ?_) (fun h42 => ?_)
    · obtain rfl : k = q := hq
      exact kk F hF h3 h4
    · exact absurd (by rw [h3, hF 301 (by omega), hL]; exact nI_le (by omega) (by omega)) h42
  | succ c ih =>
    intro k hk F hF h3 h4 hq
    refine V_aln (pc := 34) dX9_nextToken_34 rfl rfl ?_
    refine M_gi (pc := 35) hM 15 303 dX9_nextToken_35 (FL_X9_211 rfl) rfl rfl ?_
    refine V_aln (pc := 38) dX9_nextToken_38 rfl rfl ?_
    refine M_gi (pc := 39) hM 13 301 dX9_nextToken_39 (FL_X9_199 rfl) rfl rfl ?_
    refine V_cge (pc := 42) (t := 72) dX9_nextToken_42 (by decide) (fun h42 => ?_) (fun h42 => ?_)
    · exact absurd h42 (by rw [h3, hF 301 (by omega), hL]; exact nI_ge (by omega) (by omega))
    · refine V_aln (pc := 45) dX9_nextToken_45 rfl rfl ?_
      refine M_gr (pc := 46) hM 12 300 dX9_nextToken_46 (FL_X9_43 rfl) rfl rfl (by decide) ?_
      refine V_aln (pc := 49) dX9_nextToken_49 rfl rfl ?_
      refine M_gi (pc := 50) hM 15 303 dX9_nextToken_50 (FL_X9_211 rfl) rfl rfl ?_
      refine M_ia (pc := 53) hM 300 k dX9_nextToken_53 (by decide) (by decide) h3 (by show (_ : Nat) < 96; omega) ?_
      refine V_bipush (pc := 54) (v := 32) dX9_nextToken_54 (by decide) ?_
      refine V_cne (pc := 56) (t := 72) dX9_nextToken_56 (by decide) (fun h56 => ?_) (fun h56 => ?_)
      · obtain rfl : k = q := by rw [← hq]; show k = (if _ then _ else _); rw [if_neg (fun w => h56 (by rw [hT]; exact Int32.toInt_inj.mp (Int.le_antisymm w.2 w.1)))]
        exact kk F hF h3 h4
      · have hq2 : eor tp 32 32 c (k + 1) = q := by rw [← hq]; show _ = (if _ then _ else _); rw [if_pos (by rw [hT] at h56; unfold inR; rw [h56]; decide)]
        refine V_aln (pc := 59) dX9_nextToken_59 rfl rfl ?_
        refine V_dup (pc := 60) dX9_nextToken_60 rfl ?_
        refine M_gi (pc := 61) hM 15 303 dX9_nextToken_61 (FL_X9_211 rfl) rfl rfl ?_
        refine V_iconst (pc := 64) (v := 1) dX9_nextToken_64 (by decide) ?_
        refine V_iadd (pc := 65) dX9_nextToken_65 ?_
        refine M_pi (pc := 66) hM 15 303 dX9_nextToken_66 (FL_X9_211 rfl) rfl rfl rfl ?_
        refine V_goto (pc := 69) (t := 34) dX9_nextToken_69 (by decide) ?_
        refine ih (k + 1) (by omega) _ (hF.up (by decide) _) (by rw [va_up_self, h3]; exact nI_1 k) (by rw [va_up_ne _ _ (by decide)]; exact h4) hq2
set_option maxRecDepth 100000 in
set_option maxHeartbeats 4000000 in
theorem m_nt_le {x : pX} {d : Nat} {S : pS} {m : Nat} {as : Nat → Nat} {b : Nat × Nat} {Q : pS → Prop} (hM : MF S m as) {A : Nat → Nat → Int32} {F0 tp : Nat → Int32} {L q : Nat} (hT : A 300 = tp) (hL : F0 301 = nI L) (h96 : L ≤ 96) {y1 p : Int32} (kk : ∀ F, fo6 F0 F → F 302 = p → F 303 = nI q → V x (d + 3) M_X9_nextToken (qv Q) b 152 [(0, .ref m), (1, .int y1)] [] (mP S m as A F)) : ∀ (c k : Nat), k + c = L → ∀ F, fo6 F0 F → F 302 = p → F 303 = nI k → eor tp 97 122 c k = q → V x (d + 3) M_X9_nextToken (qv Q) b 128 [(0, .ref m), (1, .int y1)] [] (mP S m as A F) := by
  intro c
  induction c with
  | zero =>
    intro k hk F hF h2 h3 hq
    refine V_aln (pc := 128) dX9_nextToken_128 rfl rfl ?_
    refine V_aln (pc := 129) dX9_nextToken_129 rfl rfl ?_
    refine M_gi (pc := 130) hM 15 303 dX9_nextToken_130 (FL_X9_211 rfl) rfl rfl ?_
    rw [h3]
    refine V_cVi0 (pc := 133) (jc_X9_220 dX9_nextToken_133 rfl) rfl rfl (Nat.le_of_ble_eq_true rfl) (mF_k hM) ?_
    refine m_isLetter (p := k) hM hT (by rw [hF 301 (by omega)]; exact hL) h96 (by omega) (fun a1 a2 => absurd a1 (by omega)) (fun a0 => ?_)
    · refine V_eq (pc := 136) (t := 152) dX9_nextToken_136 (by decide) (fun _ => ?_) (fun h => absurd h (by decide))
      obtain rfl : k = q := hq
      exact kk F hF h2 h3
  | succ c ih =>
    intro k hk F hF h2 h3 hq
    refine V_aln (pc := 128) dX9_nextToken_128 rfl rfl ?_
    refine V_aln (pc := 129) dX9_nextToken_129 rfl rfl ?_
    refine M_gi (pc := 130) hM 15 303 dX9_nextToken_130 (FL_X9_211 rfl) rfl rfl ?_
    rw [h3]
    refine V_cVi0 (pc := 133) (jc_X9_220 dX9_nextToken_133 rfl) rfl rfl (Nat.le_of_ble_eq_true rfl) (mF_k hM) ?_
    refine m_isLetter (p := k) hM hT (by rw [hF 301 (by omega)]; exact hL) h96 (by omega) (fun a1 a2 => ?_) (fun a0 => ?_)
    · have hq2 : eor tp 97 122 c (k + 1) = q := by rw [← hq]; show _ = (if _ then _ else _); rw [if_pos a2]
      refine V_eq (pc := 136) (t := 152) dX9_nextToken_136 (by decide) (fun h => absurd h (by decide)) (fun _ => ?_)
      refine V_aln (pc := 139) dX9_nextToken_139 rfl rfl ?_
      refine V_dup (pc := 140) dX9_nextToken_140 rfl ?_
      refine M_gi (pc := 141) hM 15 303 dX9_nextToken_141 (FL_X9_211 rfl) rfl rfl ?_
      refine V_iconst (pc := 144) (v := 1) dX9_nextToken_144 (by decide) ?_
      refine V_iadd (pc := 145) dX9_nextToken_145 ?_
      refine M_pi (pc := 146) hM 15 303 dX9_nextToken_146 (FL_X9_211 rfl) rfl rfl rfl ?_
      refine V_goto (pc := 149) (t := 128) dX9_nextToken_149 (by decide) ?_
      refine ih (k + 1) (by omega) _ (hF.up (by decide) _) (by rw [va_up_ne _ _ (by decide)]; exact h2) (by rw [va_up_self, h3]; exact nI_1 k) hq2
    · obtain rfl : k = q := by rw [← hq]; show k = (if _ then _ else _); rw [if_neg (fun w => a0 ⟨by omega, w⟩)]
      refine V_eq (pc := 136) (t := 152) dX9_nextToken_136 (by decide) (fun _ => ?_) (fun h => absurd h (by decide))
      exact kk F hF h2 h3
/-- the number of the digits so far, of the first four of them -/
def dg4 (tp : Nat → Int32) (p k : Nat) : Int32 := dgt tp p (min k 4)
theorem dg4_s (tp : Nat → Int32) (p k : Nat) (h : k < 4) : dg4 tp p (k + 1) = 10 * dg4 tp p k + tp (p + k) - 48 := by
  unfold dg4
  rw [Nat.min_eq_left (by omega), Nat.min_eq_left (by omega)]; rfl
theorem dg4_e (tp : Nat → Int32) (p k : Nat) (h : ¬ k < 4) : dg4 tp p (k + 1) = dg4 tp p k := by
  unfold dg4
  rw [Nat.min_eq_right (by omega), Nat.min_eq_right (by omega)]
theorem nI_sub {a b : Nat} (h : b ≤ a) : nI a - nI b = nI (a - b) := by
  have e : nI a = nI (a - b) + nI b := by rw [nI_add]; congr 1; omega
  rw [e]; exact Int32.add_sub_cancel _ _
set_option maxRecDepth 100000 in
set_option maxHeartbeats 4000000 in
theorem m_nt_di {x : pX} {d : Nat} {S : pS} {m : Nat} {as : Nat → Nat} {b : Nat × Nat} {Q : pS → Prop} (hM : MF S m as) {A : Nat → Nat → Int32} {F0 tp : Nat → Int32} {L q : Nat} (hT : A 300 = tp) (hL : F0 301 = nI L) (h96 : L ≤ 96) {y1 : Int32} {p : Nat} (kk : ∀ F, fo6 F0 F → F 302 = nI p → F 303 = nI q → F 305 = dg4 tp p (q - p) → V x (d + 3) M_X9_nextToken (qv Q) b 282 [(0, .ref m), (1, .int y1)] [] (mP S m as A F)) : ∀ (c k : Nat), k + c = L → ∀ F, fo6 F0 F → F 302 = nI p → F 303 = nI k → p ≤ k → F 305 = dg4 tp p (k - p) → eor tp 48 57 c k = q → V x (d + 3) M_X9_nextToken (qv Q) b 214 [(0, .ref m), (1, .int y1)] [] (mP S m as A F) := by
  intro c
  induction c with
  | zero =>
    intro k hk F hF h2 h3 hpk h5 hq
    refine V_aln (pc := 214) dX9_nextToken_214 rfl rfl ?_
    refine V_aln (pc := 215) dX9_nextToken_215 rfl rfl ?_
    refine M_gi (pc := 216) hM 15 303 dX9_nextToken_216 (FL_X9_211 rfl) rfl rfl ?_
    rw [h3]
    refine V_cVi0 (pc := 219) (jc_X9_226 dX9_nextToken_219 rfl) rfl rfl (Nat.le_of_ble_eq_true rfl) (mF_k hM) ?_
    refine m_isDigit (p := k) hM hT (by rw [hF 301 (by omega)]; exact hL) h96 (by omega) (fun a1 a2 => absurd a1 (by omega)) (fun a0 => ?_)
    · refine V_eq (pc := 222) (t := 282) dX9_nextToken_222 (by decide) (fun _ => ?_) (fun h => absurd h (by decide))
      obtain rfl : k = q := hq
      exact kk F hF h2 h3 h5
  | succ c ih =>
    intro k hk F hF h2 h3 hpk h5 hq
    refine V_aln (pc := 214) dX9_nextToken_214 rfl rfl ?_
    refine V_aln (pc := 215) dX9_nextToken_215 rfl rfl ?_
    refine M_gi (pc := 216) hM 15 303 dX9_nextToken_216 (FL_X9_211 rfl) rfl rfl ?_
    rw [h3]
    refine V_cVi0 (pc := 219) (jc_X9_226 dX9_nextToken_219 rfl) rfl rfl (Nat.le_of_ble_eq_true rfl) (mF_k hM) ?_
    refine m_isDigit (p := k) hM hT (by rw [hF 301 (by omega)]; exact hL) h96 (by omega) (fun a1 a2 => ?_) (fun a0 => ?_)
    · have hq2 : eor tp 48 57 c (k + 1) = q := by rw [← hq]; show _ = (if _ then _ else _); rw [if_pos a2]
      refine V_eq (pc := 222) (t := 282) dX9_nextToken_222 (by decide) (fun h => absurd h (by decide)) (fun _ => ?_)
      refine V_aln (pc := 225) dX9_nextToken_225 rfl rfl ?_
      refine V_aln (pc := 226) dX9_nextToken_226 rfl rfl ?_
      refine M_gi (pc := 227) hM 15 303 dX9_nextToken_227 (FL_X9_211 rfl) rfl rfl ?_
      refine V_aln (pc := 230) dX9_nextToken_230 rfl rfl ?_
      refine M_gi (pc := 231) hM 14 302 dX9_nextToken_231 (FL_X9_217 rfl) rfl rfl ?_
      refine V_isub (pc := 234) dX9_nextToken_234 ?_
      refine V_iconst (pc := 235) (v := 4) dX9_nextToken_235 (by decide) ?_
      have e7 : F 303 - F 302 = nI (k - p) := by rw [h3, h2]; exact nI_sub (by omega)
      rw [e7]
      refine V_cge (pc := 236) (t := 262) dX9_nextToken_236 (by decide) (fun h236 => ?_) (fun h236 => ?_)
      · have hb : dg4 tp p (k + 1 - p) = F 305 := by rw [show k + 1 - p = k - p + 1 by omega, dg4_e tp p _ (fun w => nI_ge (b := 4) w (by decide) h236)]; exact h5.symm
        refine V_aln (pc := 262) dX9_nextToken_262 rfl rfl ?_
        refine M_gi (pc := 263) hM 17 305 dX9_nextToken_263 (FL_X9_229 rfl) rfl rfl ?_
        refine M_pi (pc := 266) hM 17 305 dX9_nextToken_266 (FL_X9_229 rfl) rfl rfl rfl ?_
        refine V_aln (pc := 269) dX9_nextToken_269 rfl rfl ?_
        refine V_dup (pc := 270) dX9_nextToken_270 rfl ?_
        refine M_gi (pc := 271) hM 15 303 dX9_nextToken_271 (FL_X9_211 rfl) rfl rfl ?_
        refine V_iconst (pc := 274) (v := 1) dX9_nextToken_274 (by decide) ?_
        refine V_iadd (pc := 275) dX9_nextToken_275 ?_
        refine M_pi (pc := 276) hM 15 303 dX9_nextToken_276 (FL_X9_211 rfl) rfl rfl rfl ?_
        refine V_goto (pc := 279) (t := 214) dX9_nextToken_279 (by decide) ?_
        refine ih (k + 1) (by omega) _ ((hF.up (k := 305) (by decide) _).up (k := 303) (by decide) _) (by rw [va_up_ne _ _ (by decide), va_up_ne _ _ (by decide)]; exact h2) (by rw [va_up_self, va_up_ne _ _ (by decide), h3]; exact nI_1 k) (by omega) (by rw [va_up_ne _ _ (by decide), va_up_self]; exact hb.symm) hq2
      · have hb : dg4 tp p (k + 1 - p) = 10 * F 305 + A 300 k - 48 := by rw [show k + 1 - p = k - p + 1 by omega, dg4_s tp p _ (Nat.lt_of_not_le (fun w => h236 (nI_le (a := 4) w (by omega)))), h5, hT, show p + (k - p) = k by omega]
        refine V_bipush (pc := 239) (v := 10) dX9_nextToken_239 (by decide) ?_
        refine V_aln (pc := 241) dX9_nextToken_241 rfl rfl ?_
        refine M_gi (pc := 242) hM 17 305 dX9_nextToken_242 (FL_X9_229 rfl) rfl rfl ?_
        refine V_imul (pc := 245) dX9_nextToken_245 ?_
        refine V_aln (pc := 246) dX9_nextToken_246 rfl rfl ?_
        refine M_gr (pc := 247) hM 12 300 dX9_nextToken_247 (FL_X9_43 rfl) rfl rfl (by decide) ?_
        refine V_aln (pc := 250) dX9_nextToken_250 rfl rfl ?_
        refine M_gi (pc := 251) hM 15 303 dX9_nextToken_251 (FL_X9_211 rfl) rfl rfl ?_
        refine M_ia (pc := 254) hM 300 k dX9_nextToken_254 (by decide) (by decide) h3 (by show (_ : Nat) < 96; omega) ?_
        refine V_iadd (pc := 255) dX9_nextToken_255 ?_
        refine V_bipush (pc := 256) (v := 48) dX9_nextToken_256 (by decide) ?_
        refine V_isub (pc := 258) dX9_nextToken_258 ?_
        refine V_goto (pc := 259) (t := 266) dX9_nextToken_259 (by decide) ?_
        refine M_pi (pc := 266) hM 17 305 dX9_nextToken_266 (FL_X9_229 rfl) rfl rfl rfl ?_
        refine V_aln (pc := 269) dX9_nextToken_269 rfl rfl ?_
        refine V_dup (pc := 270) dX9_nextToken_270 rfl ?_
        refine M_gi (pc := 271) hM 15 303 dX9_nextToken_271 (FL_X9_211 rfl) rfl rfl ?_
        refine V_iconst (pc := 274) (v := 1) dX9_nextToken_274 (by decide) ?_
        refine V_iadd (pc := 275) dX9_nextToken_275 ?_
        refine M_pi (pc := 276) hM 15 303 dX9_nextToken_276 (FL_X9_211 rfl) rfl rfl rfl ?_
        refine V_goto (pc := 279) (t := 214) dX9_nextToken_279 (by decide) ?_
        refine ih (k + 1) (by omega) _ ((hF.up (k := 305) (by decide) _).up (k := 303) (by decide) _) (by rw [va_up_ne _ _ (by decide), va_up_ne _ _ (by decide)]; exact h2) (by rw [va_up_self, va_up_ne _ _ (by decide), h3]; exact nI_1 k) (by omega) (by rw [va_up_ne _ _ (by decide), va_up_self]; exact hb.symm) hq2
    · obtain rfl : k = q := by rw [← hq]; show k = (if _ then _ else _); rw [if_neg (fun w => a0 ⟨by omega, w⟩)]
      refine V_eq (pc := 222) (t := 282) dX9_nextToken_222 (by decide) (fun _ => ?_) (fun h => absurd h (by decide))
      exact kk F hF h2 h3 h5
def nxp (tp : Nat → Int32) (L e t p : Nat) : tk :=
  if p = L then (L, L, 0)
  else if inR tp 97 122 p then (p, eor tp 97 122 (L - p) p, if (t = 1 ∨ t = 2) ∧ p = e then 4 else 1)
  else if inR tp 48 57 p then (p, eor tp 48 57 (L - p) p, if ((t = 1 ∨ t = 2) ∧ p = e) ∨ 4 < eor tp 48 57 (L - p) p - p then 4 else 2)
  else (p, p + 1, 3)
theorem nxt_p (tp : Nat → Int32) (L e t : Nat) : nxt tp L e t = nxp tp L e t (eor tp 32 32 (L - e) e) := rfl
set_option maxRecDepth 100000 in
set_option maxHeartbeats 4000000 in
theorem m_nt_152 {x : pX} {d : Nat} {S : pS} {m : Nat} {as : Nat → Nat} {b : Nat × Nat} {Q : pS → Prop} (hM : MF S m as) {A : Nat → Nat → Int32} {F F0 tp : Nat → Int32} {L p q e t : Nat} {y1 : Int32} {s : tk} (hT : A 300 = tp) (h96 : L ≤ 96) (hF : fo6 F0 F) (h2 : F 302 = nI p) (h3 : F 303 = nI q) (hpq : p < q) (hqL : q ≤ L) (hy : (y1 = 1 ∧ ((t = 1 ∨ t = 2) ∧ p = e)) ∨ (y1 = 0 ∧ ¬ ((t = 1 ∨ t = 2) ∧ p = e))) (hs : (p, q, if (t = 1 ∨ t = 2) ∧ p = e then 4 else 1) = s) (h : ∀ F2, fo6 F0 F2 → TS F2 tp s → Q (mP S m as A F2)) : V x (d + 3) M_X9_nextToken (qv Q) b 152 [(0, .ref m), (1, .int y1)] [] (mP S m as A F) := by
  refine V_aln (pc := 152) dX9_nextToken_152 rfl rfl ?_
  refine V_iln (pc := 153) dX9_nextToken_153 rfl rfl ?_
  refine V_eq (pc := 154) (t := 161) dX9_nextToken_154 (by decide) (fun h154 => ?_) (fun h154 => ?_)
  · have ht : ¬ ((t = 1 ∨ t = 2) ∧ p = e) := hy.elim (fun w => absurd (w.1.symm.trans h154) (by decide)) (fun w => w.2)
    rw [if_neg ht] at hs
    subst hs
    refine V_iconst (pc := 161) (v := 1) dX9_nextToken_161 (by decide) ?_
    refine M_pi (pc := 162) hM 16 304 dX9_nextToken_162 (FL_X9_214 rfl) rfl rfl rfl ?_
    refine V_aln (pc := 165) dX9_nextToken_165 rfl rfl ?_
    refine V_aln (pc := 166) dX9_nextToken_166 rfl rfl ?_
    refine M_gi (pc := 167) hM 15 303 dX9_nextToken_167 (FL_X9_211 rfl) rfl rfl ?_
    refine V_aln (pc := 170) dX9_nextToken_170 rfl rfl ?_
    refine M_gi (pc := 171) hM 14 302 dX9_nextToken_171 (FL_X9_217 rfl) rfl rfl ?_
    refine V_isub (pc := 174) dX9_nextToken_174 ?_
    refine V_iconst (pc := 175) (v := 1) dX9_nextToken_175 (by decide) ?_
    refine V_cne (pc := 176) (t := 191) dX9_nextToken_176 (by decide) (fun h176 => ?_) (fun h176 => ?_)
    · have hl : ¬ q - p = 1 := fun w => h176 (by rw [va_up_ne _ _ (by decide), va_up_ne _ _ (by decide), h3, h2, nI_sub (by omega), w]; rfl)
      refine V_iconst (pc := 191) (v := 0) dX9_nextToken_191 (by decide) ?_
      refine M_pi (pc := 192) hM 18 306 dX9_nextToken_192 (FL_X9_223 rfl) rfl rfl rfl ?_
      refine V_goto (pc := 195) (t := 339) dX9_nextToken_195 (by decide) ?_
      refine V_ret (pc := 339) dX9_nextToken_339 rfl ?_
      refine h _ ((hF.up (k := 304) (by decide) _).up (k := 306) (by decide) _) ⟨⟨by rw [va_up_ne _ _ (by decide), va_up_ne _ _ (by decide)]; exact h2, by rw [va_up_ne _ _ (by decide), va_up_ne _ _ (by decide)]; exact h3, by rw [va_up_ne _ _ (by decide), va_up_self]; rfl⟩, fun w => ?_, fun w => by dsimp only at w; omega, fun w => by dsimp only at w; omega⟩
      rw [va_up_self]
      first | (rw [if_neg hl]) | (rw [if_pos hl, hT])
    · have hl : q - p = 1 := by rw [va_up_ne _ _ (by decide), va_up_ne _ _ (by decide), h3, h2, nI_sub (by omega)] at h176; exact (nI_eq (b := 1) (by omega) (by decide)).mp h176
      refine V_aln (pc := 179) dX9_nextToken_179 rfl rfl ?_
      refine M_gr (pc := 180) hM 12 300 dX9_nextToken_180 (FL_X9_43 rfl) rfl rfl (by decide) ?_
      refine V_aln (pc := 183) dX9_nextToken_183 rfl rfl ?_
      refine M_gi (pc := 184) hM 14 302 dX9_nextToken_184 (FL_X9_217 rfl) rfl rfl ?_
      refine M_ia (pc := 187) hM 300 p dX9_nextToken_187 (by decide) (by decide) (by rw [va_up_ne _ _ (by decide)]; exact h2) (by show (_ : Nat) < 96; omega) ?_
      refine V_goto (pc := 188) (t := 192) dX9_nextToken_188 (by decide) ?_
      refine M_pi (pc := 192) hM 18 306 dX9_nextToken_192 (FL_X9_223 rfl) rfl rfl rfl ?_
      refine V_goto (pc := 195) (t := 339) dX9_nextToken_195 (by decide) ?_
      refine V_ret (pc := 339) dX9_nextToken_339 rfl ?_
      refine h _ ((hF.up (k := 304) (by decide) _).up (k := 306) (by decide) _) ⟨⟨by rw [va_up_ne _ _ (by decide), va_up_ne _ _ (by decide)]; exact h2, by rw [va_up_ne _ _ (by decide), va_up_ne _ _ (by decide)]; exact h3, by rw [va_up_ne _ _ (by decide), va_up_self]; rfl⟩, fun w => ?_, fun w => by dsimp only at w; omega, fun w => by dsimp only at w; omega⟩
      rw [va_up_self]
      first | (rw [if_neg hl]) | (rw [if_pos hl, hT])
  · have ht : (t = 1 ∨ t = 2) ∧ p = e := hy.elim (fun w => w.2) (fun w => absurd w.1 h154)
    rw [if_pos ht] at hs
    subst hs
    refine V_iconst (pc := 157) (v := 4) dX9_nextToken_157 (by decide) ?_
    refine V_goto (pc := 158) (t := 162) dX9_nextToken_158 (by decide) ?_
    refine M_pi (pc := 162) hM 16 304 dX9_nextToken_162 (FL_X9_214 rfl) rfl rfl rfl ?_
    refine V_aln (pc := 165) dX9_nextToken_165 rfl rfl ?_
    refine V_aln (pc := 166) dX9_nextToken_166 rfl rfl ?_
    refine M_gi (pc := 167) hM 15 303 dX9_nextToken_167 (FL_X9_211 rfl) rfl rfl ?_
    refine V_aln (pc := 170) dX9_nextToken_170 rfl rfl ?_
    refine M_gi (pc := 171) hM 14 302 dX9_nextToken_171 (FL_X9_217 rfl) rfl rfl ?_
    refine V_isub (pc := 174) dX9_nextToken_174 ?_
    refine V_iconst (pc := 175) (v := 1) dX9_nextToken_175 (by decide) ?_
    refine V_cne (pc := 176) (t := 191) dX9_nextToken_176 (by decide) (fun h176 => ?_) (fun h176 => ?_)
    · have hl : ¬ q - p = 1 := fun w => h176 (by rw [va_up_ne _ _ (by decide), va_up_ne _ _ (by decide), h3, h2, nI_sub (by omega), w]; rfl)
      refine V_iconst (pc := 191) (v := 0) dX9_nextToken_191 (by decide) ?_
      refine M_pi (pc := 192) hM 18 306 dX9_nextToken_192 (FL_X9_223 rfl) rfl rfl rfl ?_
      refine V_goto (pc := 195) (t := 339) dX9_nextToken_195 (by decide) ?_
      refine V_ret (pc := 339) dX9_nextToken_339 rfl ?_
      refine h _ ((hF.up (k := 304) (by decide) _).up (k := 306) (by decide) _) ⟨⟨by rw [va_up_ne _ _ (by decide), va_up_ne _ _ (by decide)]; exact h2, by rw [va_up_ne _ _ (by decide), va_up_ne _ _ (by decide)]; exact h3, by rw [va_up_ne _ _ (by decide), va_up_self]; rfl⟩, fun w => ?_, fun w => by dsimp only at w; omega, fun w => by dsimp only at w; omega⟩
      rw [va_up_self]
      first | (rw [if_neg hl]) | (rw [if_pos hl, hT])
    · have hl : q - p = 1 := by rw [va_up_ne _ _ (by decide), va_up_ne _ _ (by decide), h3, h2, nI_sub (by omega)] at h176; exact (nI_eq (b := 1) (by omega) (by decide)).mp h176
      refine V_aln (pc := 179) dX9_nextToken_179 rfl rfl ?_
      refine M_gr (pc := 180) hM 12 300 dX9_nextToken_180 (FL_X9_43 rfl) rfl rfl (by decide) ?_
      refine V_aln (pc := 183) dX9_nextToken_183 rfl rfl ?_
      refine M_gi (pc := 184) hM 14 302 dX9_nextToken_184 (FL_X9_217 rfl) rfl rfl ?_
      refine M_ia (pc := 187) hM 300 p dX9_nextToken_187 (by decide) (by decide) (by rw [va_up_ne _ _ (by decide)]; exact h2) (by show (_ : Nat) < 96; omega) ?_
      refine V_goto (pc := 188) (t := 192) dX9_nextToken_188 (by decide) ?_
      refine M_pi (pc := 192) hM 18 306 dX9_nextToken_192 (FL_X9_223 rfl) rfl rfl rfl ?_
      refine V_goto (pc := 195) (t := 339) dX9_nextToken_195 (by decide) ?_
      refine V_ret (pc := 339) dX9_nextToken_339 rfl ?_
      refine h _ ((hF.up (k := 304) (by decide) _).up (k := 306) (by decide) _) ⟨⟨by rw [va_up_ne _ _ (by decide), va_up_ne _ _ (by decide)]; exact h2, by rw [va_up_ne _ _ (by decide), va_up_ne _ _ (by decide)]; exact h3, by rw [va_up_ne _ _ (by decide), va_up_self]; rfl⟩, fun w => ?_, fun w => by dsimp only at w; omega, fun w => by dsimp only at w; omega⟩
      rw [va_up_self]
      first | (rw [if_neg hl]) | (rw [if_pos hl, hT])
set_option maxRecDepth 100000 in
set_option maxHeartbeats 4000000 in
theorem m_nt_282 {x : pX} {d : Nat} {S : pS} {m : Nat} {as : Nat → Nat} {b : Nat × Nat} {Q : pS → Prop} (hM : MF S m as) {A : Nat → Nat → Int32} {F F0 tp : Nat → Int32} {L p q e t : Nat} {y1 : Int32} {s : tk} (hT : A 300 = tp) (h96 : L ≤ 96) (hF : fo6 F0 F) (h2 : F 302 = nI p) (h3 : F 303 = nI q) (hpq : p < q) (hqL : q ≤ L) (hy : (y1 = 1 ∧ ((t = 1 ∨ t = 2) ∧ p = e)) ∨ (y1 = 0 ∧ ¬ ((t = 1 ∨ t = 2) ∧ p = e))) (h5 : F 305 = dg4 tp p (q - p)) (hs : (p, q, if ((t = 1 ∨ t = 2) ∧ p = e) ∨ 4 < q - p then 4 else 2) = s) (h : ∀ F2, fo6 F0 F2 → TS F2 tp s → Q (mP S m as A F2)) : V x (d + 3) M_X9_nextToken (qv Q) b 282 [(0, .ref m), (1, .int y1)] [] (mP S m as A F) := by
  refine V_aln (pc := 282) dX9_nextToken_282 rfl rfl ?_
  refine V_iln (pc := 283) dX9_nextToken_283 rfl rfl ?_
  refine V_ne (pc := 284) (t := 300) dX9_nextToken_284 (by decide) (fun h284 => ?_) (fun h284 => ?_)
  · have ht : (t = 1 ∨ t = 2) ∧ p = e := hy.elim (fun w => w.2) (fun w => absurd w.1 h284)
    rw [if_pos (Or.inl ht)] at hs
    subst hs
    refine V_iconst (pc := 300) (v := 4) dX9_nextToken_300 (by decide) ?_
    refine V_goto (pc := 301) (t := 305) dX9_nextToken_301 (by decide) ?_
    refine M_pi (pc := 305) hM 16 304 dX9_nextToken_305 (FL_X9_214 rfl) rfl rfl rfl ?_
    refine V_goto (pc := 308) (t := 339) dX9_nextToken_308 (by decide) ?_
    refine V_ret (pc := 339) dX9_nextToken_339 rfl ?_
    refine h _ (hF.up (k := 304) (by decide) _) ⟨⟨by rw [va_up_ne _ _ (by decide)]; exact h2, by rw [va_up_ne _ _ (by decide)]; exact h3, by rw [va_up_self]; rfl⟩, fun w => by dsimp only at w; omega, fun w => ?_, fun w => by dsimp only at w; omega⟩
    first | (exfalso; dsimp only at w; omega) | (rw [va_up_ne _ _ (by decide), h5]; unfold dg4; rw [Nat.min_eq_left (by omega)])
  · have ht : ¬ ((t = 1 ∨ t = 2) ∧ p = e) := hy.elim (fun w => absurd (w.1.symm.trans h284) (by decide)) (fun w => w.2)
    refine V_aln (pc := 287) dX9_nextToken_287 rfl rfl ?_
    refine M_gi (pc := 288) hM 15 303 dX9_nextToken_288 (FL_X9_211 rfl) rfl rfl ?_
    refine V_aln (pc := 291) dX9_nextToken_291 rfl rfl ?_
    refine M_gi (pc := 292) hM 14 302 dX9_nextToken_292 (FL_X9_217 rfl) rfl rfl ?_
    refine V_isub (pc := 295) dX9_nextToken_295 ?_
    refine V_iconst (pc := 296) (v := 4) dX9_nextToken_296 (by decide) ?_
    refine V_cle (pc := 297) (t := 304) dX9_nextToken_297 (by decide) (fun h297 => ?_) (fun h297 => ?_)
    · have hl : ¬ 4 < q - p := fun w => by rw [h3, h2, nI_sub (by omega)] at h297; exact nI_ge (a := 4) w (by omega) h297
      rw [if_neg (fun w => w.elim ht hl)] at hs
      subst hs
      refine V_iconst (pc := 304) (v := 2) dX9_nextToken_304 (by decide) ?_
      refine M_pi (pc := 305) hM 16 304 dX9_nextToken_305 (FL_X9_214 rfl) rfl rfl rfl ?_
      refine V_goto (pc := 308) (t := 339) dX9_nextToken_308 (by decide) ?_
      refine V_ret (pc := 339) dX9_nextToken_339 rfl ?_
      refine h _ (hF.up (k := 304) (by decide) _) ⟨⟨by rw [va_up_ne _ _ (by decide)]; exact h2, by rw [va_up_ne _ _ (by decide)]; exact h3, by rw [va_up_self]; rfl⟩, fun w => by dsimp only at w; omega, fun w => ?_, fun w => by dsimp only at w; omega⟩
      first | (exfalso; dsimp only at w; omega) | (rw [va_up_ne _ _ (by decide), h5]; unfold dg4; rw [Nat.min_eq_left (by omega)])
    · have hl : 4 < q - p := by rw [h3, h2, nI_sub (by omega)] at h297; exact Nat.lt_of_not_le (fun w => h297 (nI_le (b := 4) w (by decide)))
      rw [if_pos (Or.inr hl)] at hs
      subst hs
      refine V_iconst (pc := 300) (v := 4) dX9_nextToken_300 (by decide) ?_
      refine V_goto (pc := 301) (t := 305) dX9_nextToken_301 (by decide) ?_
      refine M_pi (pc := 305) hM 16 304 dX9_nextToken_305 (FL_X9_214 rfl) rfl rfl rfl ?_
      refine V_goto (pc := 308) (t := 339) dX9_nextToken_308 (by decide) ?_
      refine V_ret (pc := 339) dX9_nextToken_339 rfl ?_
      refine h _ (hF.up (k := 304) (by decide) _) ⟨⟨by rw [va_up_ne _ _ (by decide)]; exact h2, by rw [va_up_ne _ _ (by decide)]; exact h3, by rw [va_up_self]; rfl⟩, fun w => by dsimp only at w; omega, fun w => ?_, fun w => by dsimp only at w; omega⟩
      first | (exfalso; dsimp only at w; omega) | (rw [va_up_ne _ _ (by decide), h5]; unfold dg4; rw [Nat.min_eq_left (by omega)])
set_option maxRecDepth 100000 in
set_option maxHeartbeats 4000000 in
theorem m_nt_98 {x : pX} {d : Nat} {S : pS} {m : Nat} {as : Nat → Nat} {b : Nat × Nat} {Q : pS → Prop} (hM : MF S m as) {A : Nat → Nat → Int32} {F F0 tp : Nat → Int32} {L p e t : Nat} {y1 : Int32} {s : tk} (hT : A 300 = tp) (hL : F0 301 = nI L) (h96 : L ≤ 96) (hF : fo6 F0 F) (h2 : F 302 = nI p) (h3 : F 303 = nI p) (hpL : p ≤ L) (hy : (y1 = 1 ∧ ((t = 1 ∨ t = 2) ∧ p = e)) ∨ (y1 = 0 ∧ ¬ ((t = 1 ∨ t = 2) ∧ p = e))) (hs : nxp tp L e t p = s) (h : ∀ F2, fo6 F0 F2 → TS F2 tp s → Q (mP S m as A F2)) : V x (d + 3) M_X9_nextToken (qv Q) b 98 [(0, .ref m), (1, .int y1)] [] (mP S m as A F) := by
  refine V_aln (pc := 98) dX9_nextToken_98 rfl rfl ?_
  refine M_gi (pc := 99) hM 14 302 dX9_nextToken_99 (FL_X9_217 rfl) rfl rfl ?_
  refine V_aln (pc := 102) dX9_nextToken_102 rfl rfl ?_
  refine M_gi (pc := 103) hM 13 301 dX9_nextToken_103 (FL_X9_199 rfl) rfl rfl ?_
  refine V_cne (pc := 106) (t := 117) dX9_nextToken_106 (by decide) (fun h106 => ?_) (fun h106 => ?_)
  · have hp : ¬ p = L := fun w => h106 (by rw [h2, hF 301 (by omega), hL, w])
    unfold nxp at hs
    rw [if_neg hp] at hs
    refine V_aln (pc := 117) dX9_nextToken_117 rfl rfl ?_
    refine V_aln (pc := 118) dX9_nextToken_118 rfl rfl ?_
    refine M_gi (pc := 119) hM 14 302 dX9_nextToken_119 (FL_X9_217 rfl) rfl rfl ?_
    rw [h2]
    refine V_cVi0 (pc := 122) (jc_X9_220 dX9_nextToken_122 rfl) rfl rfl (Nat.le_of_ble_eq_true rfl) (mF_k hM) ?_
    refine m_isLetter (p := p) hM hT (by rw [hF 301 (by omega)]; exact hL) h96 (by omega) (fun a1 a2 => ?_) (fun a0 => ?_)
    · rw [if_pos a2] at hs
      refine V_eq (pc := 125) (t := 198) dX9_nextToken_125 (by decide) (fun h => absurd h (by decide)) (fun _ => ?_)
      have e4 := eor_pos (tp := tp) (c := L - p) (by omega) a2
      have e5 := eor_le tp 97 122 (L - p) p
      exact m_nt_le hM hT hL h96 (fun F2 g1 g2 g3 => m_nt_152 hM hT h96 g1 g2 g3 e4 (by omega) hy hs h) (L - p) p (by omega) F hF h2 h3 rfl
    · rw [if_neg (fun w => a0 ⟨by omega, w⟩)] at hs
      refine V_eq (pc := 125) (t := 198) dX9_nextToken_125 (by decide) (fun _ => ?_) (fun h => absurd h (by decide))
      refine V_aln (pc := 198) dX9_nextToken_198 rfl rfl ?_
      refine V_aln (pc := 199) dX9_nextToken_199 rfl rfl ?_
      refine M_gi (pc := 200) hM 14 302 dX9_nextToken_200 (FL_X9_217 rfl) rfl rfl ?_
      rw [h2]
      refine V_cVi0 (pc := 203) (jc_X9_226 dX9_nextToken_203 rfl) rfl rfl (Nat.le_of_ble_eq_true rfl) (mF_k hM) ?_
      refine m_isDigit (p := p) hM hT (by rw [hF 301 (by omega)]; exact hL) h96 (by omega) (fun a1 a2 => ?_) (fun b0 => ?_)
      · rw [if_pos a2] at hs
        refine V_eq (pc := 206) (t := 311) dX9_nextToken_206 (by decide) (fun h => absurd h (by decide)) (fun _ => ?_)
        refine V_aln (pc := 209) dX9_nextToken_209 rfl rfl ?_
        refine V_iconst (pc := 210) (v := 0) dX9_nextToken_210 (by decide) ?_
        refine M_pi (pc := 211) hM 17 305 dX9_nextToken_211 (FL_X9_229 rfl) rfl rfl rfl ?_
        have e4 := eor_pos (tp := tp) (c := L - p) (by omega) a2
        have e5 := eor_le tp 48 57 (L - p) p
        refine m_nt_di hM hT hL h96 (p := p) (fun F2 g1 g2 g3 g4 => m_nt_282 hM hT h96 g1 g2 g3 e4 (by omega) hy g4 hs h) (L - p) p (by omega) _ (hF.up (k := 305) (by decide) _) (by rw [va_up_ne _ _ (by decide)]; exact h2) (by rw [va_up_ne _ _ (by decide)]; exact h3) (Nat.le_refl _) ?_ rfl
        rw [va_up_self, Nat.sub_self]; rfl
      · rw [if_neg (fun w => b0 ⟨by omega, w⟩)] at hs
        subst hs
        refine V_eq (pc := 206) (t := 311) dX9_nextToken_206 (by decide) (fun _ => ?_) (fun h => absurd h (by decide))
        refine V_aln (pc := 311) dX9_nextToken_311 rfl rfl ?_
        refine V_iconst (pc := 312) (v := 3) dX9_nextToken_312 (by decide) ?_
        refine M_pi (pc := 313) hM 16 304 dX9_nextToken_313 (FL_X9_214 rfl) rfl rfl rfl ?_
        refine V_aln (pc := 316) dX9_nextToken_316 rfl rfl ?_
        refine V_aln (pc := 317) dX9_nextToken_317 rfl rfl ?_
        refine M_gr (pc := 318) hM 12 300 dX9_nextToken_318 (FL_X9_43 rfl) rfl rfl (by decide) ?_
        refine V_aln (pc := 321) dX9_nextToken_321 rfl rfl ?_
        refine M_gi (pc := 322) hM 14 302 dX9_nextToken_322 (FL_X9_217 rfl) rfl rfl ?_
        refine M_ia (pc := 325) hM 300 p dX9_nextToken_325 (by decide) (by decide) (by rw [va_up_ne _ _ (by decide)]; exact h2) (by show (_ : Nat) < 96; omega) ?_
        refine M_pi (pc := 326) hM 18 306 dX9_nextToken_326 (FL_X9_223 rfl) rfl rfl rfl ?_
        refine V_aln (pc := 329) dX9_nextToken_329 rfl rfl ?_
        refine V_dup (pc := 330) dX9_nextToken_330 rfl ?_
        refine M_gi (pc := 331) hM 15 303 dX9_nextToken_331 (FL_X9_211 rfl) rfl rfl ?_
        refine V_iconst (pc := 334) (v := 1) dX9_nextToken_334 (by decide) ?_
        refine V_iadd (pc := 335) dX9_nextToken_335 ?_
        refine M_pi (pc := 336) hM 15 303 dX9_nextToken_336 (FL_X9_211 rfl) rfl rfl rfl ?_
        refine V_ret (pc := 339) dX9_nextToken_339 rfl ?_
        refine h _ (((hF.up (k := 304) (by decide) _).up (k := 306) (by decide) _).up (k := 303) (by decide) _) ⟨⟨by rw [va_up_ne _ _ (by decide), va_up_ne _ _ (by decide), va_up_ne _ _ (by decide)]; exact h2, by rw [va_up_self, va_up_ne _ _ (by decide), va_up_ne _ _ (by decide), h3]; exact nI_1 p, by rw [va_up_ne _ _ (by decide), va_up_ne _ _ (by decide), va_up_self]; rfl⟩, fun w => by dsimp only at w; omega, fun w => by dsimp only at w; omega, fun w => ?_⟩
        rw [va_up_ne _ _ (by decide), va_up_self, hT]
  · have hp : p = L := by rw [h2, hF 301 (by omega), hL] at h106; exact (nI_eq (by omega) (by omega)).mp h106
    unfold nxp at hs
    rw [if_pos hp] at hs
    subst hs
    refine V_aln (pc := 109) dX9_nextToken_109 rfl rfl ?_
    refine V_iconst (pc := 110) (v := 0) dX9_nextToken_110 (by decide) ?_
    refine M_pi (pc := 111) hM 16 304 dX9_nextToken_111 (FL_X9_214 rfl) rfl rfl rfl ?_
    refine V_goto (pc := 114) (t := 339) dX9_nextToken_114 (by decide) ?_
    refine V_ret (pc := 339) dX9_nextToken_339 rfl ?_
    refine h _ (hF.up (k := 304) (by decide) _) ⟨⟨by rw [va_up_ne _ _ (by decide), ← hp]; exact h2, by rw [va_up_ne _ _ (by decide), ← hp]; exact h3, by rw [va_up_self]; rfl⟩, fun w => by dsimp only at w; omega, fun w => by dsimp only at w; omega, fun w => by dsimp only at w; omega⟩
set_option maxRecDepth 100000 in
set_option maxHeartbeats 4000000 in
theorem m_nt_72 {x : pX} {d : Nat} {S : pS} {m : Nat} {as : Nat → Nat} {b : Nat × Nat} {Q : pS → Prop} (hM : MF S m as) {A : Nat → Nat → Int32} {F F0 tp : Nat → Int32} {L p e t : Nat} {y1 : Int32} {s : tk} (hT : A 300 = tp) (hL : F0 301 = nI L) (h96 : L ≤ 96) (hF : fo6 F0 F) (h3 : F 303 = nI p) (he : e ≤ L) (hpL : p ≤ L) (hy : (y1 = 1 ∧ (t = 1 ∨ t = 2)) ∨ (y1 = 0 ∧ ¬ (t = 1 ∨ t = 2))) (hs : nxp tp L e t p = s) (h : ∀ F2, fo6 F0 F2 → TS F2 tp s → Q (mP S m as A F2)) : V x (d + 3) M_X9_nextToken (qv Q) b 72 [(0, .ref m), (1, .int y1), (2, .int (nI e))] [] (mP S m as A F) := by
  refine V_iln (pc := 72) dX9_nextToken_72 rfl rfl ?_
  refine V_eq (pc := 73) (t := 88) dX9_nextToken_73 (by decide) (fun h73 => ?_) (fun h73 => ?_)
  · have hc : ¬ ((t = 1 ∨ t = 2) ∧ p = e) := hy.elim (fun w => absurd (w.1.symm.trans h73) (by decide)) (fun w v => w.2 v.1)
    refine V_iconst (pc := 88) (v := 0) dX9_nextToken_88 (by decide) ?_
    refine V_isn (pc := 89) (fun y => [(0, .ref m), (1, .int y), (2, .int (nI e))]) dX9_nextToken_89 rfl (by decide) (fun _ => rfl) (fun y89 ey89 => ?_)
    refine V_aln (pc := 90) dX9_nextToken_90 rfl rfl ?_
    refine V_aln (pc := 91) dX9_nextToken_91 rfl rfl ?_
    refine M_gi (pc := 92) hM 15 303 dX9_nextToken_92 (FL_X9_211 rfl) rfl rfl ?_
    refine M_pi (pc := 95) hM 14 302 dX9_nextToken_95 (FL_X9_217 rfl) rfl rfl rfl ?_
    refine V_lp [0, 1] (ls' := [(0, .ref m), (1, .int y89)]) rfl ?_
    exact m_nt_98 (p := p) hM hT hL h96 (hF.up (k := 302) (by decide) _) (by rw [va_up_self]; exact h3) (by rw [va_up_ne _ _ (by decide)]; exact h3) hpL (Or.inr ⟨ey89, hc⟩) hs h
  · have hc0 : t = 1 ∨ t = 2 := hy.elim (fun w => w.2) (fun w => absurd w.1 h73)
    refine V_iln (pc := 76) dX9_nextToken_76 rfl rfl ?_
    refine V_aln (pc := 77) dX9_nextToken_77 rfl rfl ?_
    refine M_gi (pc := 78) hM 15 303 dX9_nextToken_78 (FL_X9_211 rfl) rfl rfl ?_
    refine V_cne (pc := 81) (t := 88) dX9_nextToken_81 (by decide) (fun h81 => ?_) (fun h81 => ?_)
    · have hc : ¬ ((t = 1 ∨ t = 2) ∧ p = e) := fun v => h81 (by rw [h3, v.2])
      refine V_iconst (pc := 88) (v := 0) dX9_nextToken_88 (by decide) ?_
      refine V_isn (pc := 89) (fun y => [(0, .ref m), (1, .int y), (2, .int (nI e))]) dX9_nextToken_89 rfl (by decide) (fun _ => rfl) (fun y89 ey89 => ?_)
      refine V_aln (pc := 90) dX9_nextToken_90 rfl rfl ?_
      refine V_aln (pc := 91) dX9_nextToken_91 rfl rfl ?_
      refine M_gi (pc := 92) hM 15 303 dX9_nextToken_92 (FL_X9_211 rfl) rfl rfl ?_
      refine M_pi (pc := 95) hM 14 302 dX9_nextToken_95 (FL_X9_217 rfl) rfl rfl rfl ?_
      refine V_lp [0, 1] (ls' := [(0, .ref m), (1, .int y89)]) rfl ?_
      exact m_nt_98 (p := p) hM hT hL h96 (hF.up (k := 302) (by decide) _) (by rw [va_up_self]; exact h3) (by rw [va_up_ne _ _ (by decide)]; exact h3) hpL (Or.inr ⟨ey89, hc⟩) hs h
    · have hc : (t = 1 ∨ t = 2) ∧ p = e := ⟨hc0, by rw [h3] at h81; exact ((nI_eq (by omega) (by omega)).mp h81).symm⟩
      refine V_iconst (pc := 84) (v := 1) dX9_nextToken_84 (by decide) ?_
      refine V_goto (pc := 85) (t := 89) dX9_nextToken_85 (by decide) ?_
      refine V_isn (pc := 89) (fun y => [(0, .ref m), (1, .int y), (2, .int (nI e))]) dX9_nextToken_89 rfl (by decide) (fun _ => rfl) (fun y89 ey89 => ?_)
      refine V_aln (pc := 90) dX9_nextToken_90 rfl rfl ?_
      refine V_aln (pc := 91) dX9_nextToken_91 rfl rfl ?_
      refine M_gi (pc := 92) hM 15 303 dX9_nextToken_92 (FL_X9_211 rfl) rfl rfl ?_
      refine M_pi (pc := 95) hM 14 302 dX9_nextToken_95 (FL_X9_217 rfl) rfl rfl rfl ?_
      refine V_lp [0, 1] (ls' := [(0, .ref m), (1, .int y89)]) rfl ?_
      exact m_nt_98 (p := p) hM hT hL h96 (hF.up (k := 302) (by decide) _) (by rw [va_up_self]; exact h3) (by rw [va_up_ne _ _ (by decide)]; exact h3) hpL (Or.inl ⟨ey89, hc⟩) hs h
set_option maxRecDepth 100000 in
set_option maxHeartbeats 4000000 in
theorem m_nextToken {x : pX} {d : Nat} {S : pS} {m : Nat} {as : Nat → Nat} {A : Nat → Nat → Int32} {F : Nat → Int32} {Q : pS → Prop} (hM : MF S m as) {tp : Nat → Int32} {L e t : Nat} (hT : A 300 = tp) (hL : F 301 = nI L) (h96 : L ≤ 96) (he : e ≤ L) (h3 : F 303 = nI e) (h4 : F 304 = nI t) (ht4 : t ≤ 4) (hpos : t = 1 ∨ t = 2 → 0 < e) (h : ∀ F2, fo6 F F2 → TS F2 tp (nxt tp L e t) → Q (mP S m as A F2)) : PV x (d + 3) M_X9_nextToken [.ref m] (mP S m as A F) Q := by
  have p1 := eor_ge tp 32 32 (L - e) e
  have p2 := eor_le tp 32 32 (L - e) e
  refine PM_of (by decide +kernel) (Nat.le_of_ble_eq_true rfl) ?_
  show V x (d + 3) M_X9_nextToken (qv Q) (0, 0) 0 [(0, .ref m)] [] (mP S m as A F)
  refine V_aln (pc := 0) dX9_nextToken_0 rfl rfl ?_
  refine M_gi (pc := 1) hM 15 303 dX9_nextToken_1 (FL_X9_211 rfl) rfl rfl ?_
  refine V_le (pc := 4) (t := 27) dX9_nextToken_4 (by decide) (fun h4_ => ?_) (fun h4_ => ?_)
  · have hc : ¬ (t = 1 ∨ t = 2) := fun w => absurd h4_ (by rw [h3]; exact nI_ge (a := 0) (hpos w) (by omega))
    refine V_iconst (pc := 27) (v := 0) dX9_nextToken_27 (by decide) ?_
    refine V_isn (pc := 28) (fun y => [(0, .ref m), (1, .int y)]) dX9_nextToken_28 rfl (by decide) (fun _ => rfl) (fun y28 ey28 => ?_)
    refine V_aln (pc := 29) dX9_nextToken_29 rfl rfl ?_
    refine M_gi (pc := 30) hM 15 303 dX9_nextToken_30 (FL_X9_211 rfl) rfl rfl ?_
    refine V_isn (pc := 33) (fun y => [(0, .ref m), (1, .int y28), (2, .int y)]) dX9_nextToken_33 rfl (by decide) (fun _ => rfl) (fun y33 ey33 => ?_)
    obtain rfl : y33 = nI e := by rw [ey33]; exact h3
    exact m_nt_sp hM hT hL h96 (t := F 304) (fun F2 g1 g2 g3 => m_nt_72 hM hT hL h96 g1 g2 he (by omega) (Or.inr ⟨ey28, hc⟩) (nxt_p tp L e t).symm h) (L - e) e (by omega) F fo6.rf h3 rfl rfl
  · refine V_aln (pc := 7) dX9_nextToken_7 rfl rfl ?_
    refine M_gi (pc := 8) hM 16 304 dX9_nextToken_8 (FL_X9_214 rfl) rfl rfl ?_
    refine V_iconst (pc := 11) (v := 1) dX9_nextToken_11 (by decide) ?_
    refine V_ceq (pc := 12) (t := 23) dX9_nextToken_12 (by decide) (fun h12 => ?_) (fun h12 => ?_)
    · have hc : t = 1 ∨ t = 2 := Or.inl ((nI_eq (b := 1) (by omega) (by decide)).mp (by rw [← h4]; exact h12))
      refine V_iconst (pc := 23) (v := 1) dX9_nextToken_23 (by decide) ?_
      refine V_goto (pc := 24) (t := 28) dX9_nextToken_24 (by decide) ?_
      refine V_isn (pc := 28) (fun y => [(0, .ref m), (1, .int y)]) dX9_nextToken_28 rfl (by decide) (fun _ => rfl) (fun y28 ey28 => ?_)
      refine V_aln (pc := 29) dX9_nextToken_29 rfl rfl ?_
      refine M_gi (pc := 30) hM 15 303 dX9_nextToken_30 (FL_X9_211 rfl) rfl rfl ?_
      refine V_isn (pc := 33) (fun y => [(0, .ref m), (1, .int y28), (2, .int y)]) dX9_nextToken_33 rfl (by decide) (fun _ => rfl) (fun y33 ey33 => ?_)
      obtain rfl : y33 = nI e := by rw [ey33]; exact h3
      exact m_nt_sp hM hT hL h96 (t := F 304) (fun F2 g1 g2 g3 => m_nt_72 hM hT hL h96 g1 g2 he (by omega) (Or.inl ⟨ey28, hc⟩) (nxt_p tp L e t).symm h) (L - e) e (by omega) F fo6.rf h3 rfl rfl
    · refine V_aln (pc := 15) dX9_nextToken_15 rfl rfl ?_
      refine M_gi (pc := 16) hM 16 304 dX9_nextToken_16 (FL_X9_214 rfl) rfl rfl ?_
      refine V_iconst (pc := 19) (v := 2) dX9_nextToken_19 (by decide) ?_
      refine V_cne (pc := 20) (t := 27) dX9_nextToken_20 (by decide) (fun h20 => ?_) (fun h20 => ?_)
      · have hc : ¬ (t = 1 ∨ t = 2) := fun w => w.elim (fun v => h12 (by rw [h4, v]; rfl)) (fun v => h20 (by rw [h4, v]; rfl))
        refine V_iconst (pc := 27) (v := 0) dX9_nextToken_27 (by decide) ?_
        refine V_isn (pc := 28) (fun y => [(0, .ref m), (1, .int y)]) dX9_nextToken_28 rfl (by decide) (fun _ => rfl) (fun y28 ey28 => ?_)
        refine V_aln (pc := 29) dX9_nextToken_29 rfl rfl ?_
        refine M_gi (pc := 30) hM 15 303 dX9_nextToken_30 (FL_X9_211 rfl) rfl rfl ?_
        refine V_isn (pc := 33) (fun y => [(0, .ref m), (1, .int y28), (2, .int y)]) dX9_nextToken_33 rfl (by decide) (fun _ => rfl) (fun y33 ey33 => ?_)
        obtain rfl : y33 = nI e := by rw [ey33]; exact h3
        exact m_nt_sp hM hT hL h96 (t := F 304) (fun F2 g1 g2 g3 => m_nt_72 hM hT hL h96 g1 g2 he (by omega) (Or.inr ⟨ey28, hc⟩) (nxt_p tp L e t).symm h) (L - e) e (by omega) F fo6.rf h3 rfl rfl
      · have hc : t = 1 ∨ t = 2 := Or.inr ((nI_eq (b := 2) (by omega) (by decide)).mp (by rw [← h4]; exact h20))
        refine V_iconst (pc := 23) (v := 1) dX9_nextToken_23 (by decide) ?_
        refine V_goto (pc := 24) (t := 28) dX9_nextToken_24 (by decide) ?_
        refine V_isn (pc := 28) (fun y => [(0, .ref m), (1, .int y)]) dX9_nextToken_28 rfl (by decide) (fun _ => rfl) (fun y28 ey28 => ?_)
        refine V_aln (pc := 29) dX9_nextToken_29 rfl rfl ?_
        refine M_gi (pc := 30) hM 15 303 dX9_nextToken_30 (FL_X9_211 rfl) rfl rfl ?_
        refine V_isn (pc := 33) (fun y => [(0, .ref m), (1, .int y28), (2, .int y)]) dX9_nextToken_33 rfl (by decide) (fun _ => rfl) (fun y33 ey33 => ?_)
        obtain rfl : y33 = nI e := by rw [ey33]; exact h3
        exact m_nt_sp hM hT hL h96 (t := F 304) (fun F2 g1 g2 g3 => m_nt_72 hM hT hL h96 g1 g2 he (by omega) (Or.inl ⟨ey28, hc⟩) (nxt_p tp L e t).symm h) (L - e) e (by omega) F fo6.rf h3 rfl rfl
