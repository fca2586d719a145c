/-! ===== the model: copy, lay, feed, check ===== -/
theorem l_add (a b : Int32) : (a.toInt64 + b.toInt64).toInt = a.toInt + b.toInt := by
  have h1 := Int32.toInt_lt a
  have h2 := Int32.le_toInt a
  have h3 := Int32.toInt_lt b
  have h4 := Int32.le_toInt b
  rw [Int64.toInt_add, i64_toInt, i64_toInt]
  exact Int.bmod_eq_of_le (by omega) (by omega)
/-- so many numbers laid over others of the same row -/
def cpd (f : Nat → Int32) (p q N : Nat) : Nat → Int32 := fun j => if q ≤ j ∧ j < q + N then f (p + (j - q)) else f j
theorem cpd_0 (f : Nat → Int32) (p q : Nat) : cpd f p q 0 = f := by funext j; unfold cpd; rw [if_neg (by omega)]
theorem cpd_s (f : Nat → Int32) (p q k : Nat) : upd (cpd f p q k) (q + k) (f (p + k)) = cpd f p q (k + 1) := by
  funext j
  by_cases hj : j = q + k
  · subst hj; rw [pk_us]; unfold cpd; rw [if_pos (by omega), show q + k - q = k by omega]
  · rw [pk_un hj]; unfold cpd
    by_cases h2 : q ≤ j ∧ j < q + k
    · rw [if_pos h2, if_pos (by omega)]
    · rw [if_neg h2, if_neg (by omega)]
def o_copy (ts tz tn : Nat → Int32) (f p t a N : Int32) : Int32 × (Nat → Int32) :=
  if (0 ≤ f.toInt ∧ f.toInt ≤ 3) ∧ (0 ≤ t.toInt ∧ t.toInt ≤ 3) then (if ts f.toNatClampNeg < 0 ∨ ts t.toNatClampNeg < 0 then (-1000000011, tn) else if ¬ ts f.toNatClampNeg = ts t.toNatClampNeg then (-1000000012, tn) else if 0 ≤ p.toInt ∧ 0 ≤ a.toInt ∧ 0 ≤ N.toInt ∧ p.toInt + N.toInt ≤ (tz f.toNatClampNeg).toInt ∧ a.toInt + N.toInt ≤ (tz t.toNatClampNeg).toInt then (N, cpd tn (24 * f.toNatClampNeg + p.toNatClampNeg) (24 * t.toNatClampNeg + a.toNatClampNeg) N.toNatClampNeg) else (-1000000013, tn)) else (-1000000001, tn)
/-- arrays alike but for the scratch ones -/
def se (A A' : Nat → Nat → Int32) : Prop := ∀ f, f ≠ 290 → f ≠ 312 → f ≠ 313 → f ≠ 314 → f ≠ 317 → A' f = A f
theorem se.rf {A : Nat → Nat → Int32} : se A A := fun _ _ _ _ _ _ => rfl
theorem sc.e {A B : Nat → Nat → Int32} (h : sc A B) : se A B := fun f _ b c _ _ => h f b c
set_option maxRecDepth 100000 in
set_option maxHeartbeats 4000000 in
theorem m_copy_L2 {x : pX} {d : Nat} {S : pS} {m : Nat} {as : Nat → Nat} {F : Nat → Int32} {b : Nat × Nat} {Q : Int32 → pS → Prop} (hM : MF S m as) {A0 : Nat → Nat → Int32} {tn c0 : Nat → Int32} {f p t a N : Nat} (hf : f < 4) (ht : t < 4) (hp : p + N ≤ 24) (ha : a + N ≤ 24) (h : Q (nI N) (mP S m as (va_up (va_up A0 314 (lyd (fun j => tn (24 * f + p + j)) c0 N)) 294 (cpd tn (24 * f + p) (24 * t + a) N)) F)) : ∀ (c k : Nat), k + c = N → V x (d + 3) M_X9_copy (qi Q) b 150 [(0, .ref m), (1, .int (nI f)), (2, .int (nI p)), (3, .int (nI t)), (4, .int (nI a)), (5, .int (nI N)), (6, .int (nI k))] [] (mP S m as (va_up (va_up A0 314 (lyd (fun j => tn (24 * f + p + j)) c0 N)) 294 (cpd tn (24 * f + p) (24 * t + a) k)) F) := by
  intro c
  induction c with
  | zero =>
    intro k hk 
    refine V_il (pc := 150) dX9_copy_150 rfl ?_
    refine V_il (pc := 152) dX9_copy_152 rfl ?_
    refine V_cge (pc := 154) (t := 185) dX9_copy_154 (by decide) (fun h154 => ?_) (fun h154 => ?_)
    · refine V_il (pc := 185) dX9_copy_185 rfl ?_
      refine V_iret (pc := 187) dX9_copy_187 rfl rfl ?_
      obtain rfl : k = N := by omega
      exact h
    · exact absurd (nI_le (by omega) (by omega)) h154
  | succ c ih =>
    intro k hk 
    refine V_il (pc := 150) dX9_copy_150 rfl ?_
    refine V_il (pc := 152) dX9_copy_152 rfl ?_
    refine V_cge (pc := 154) (t := 185) dX9_copy_154 (by decide) (fun h154 => ?_) (fun h154 => ?_)
    · exact absurd h154 (nI_ge (by omega) (by omega))
    · refine V_aln (pc := 157) dX9_copy_157 rfl rfl ?_
      refine M_gr (pc := 158) hM 6 294 dX9_copy_158 (FL_X9_25 rfl) rfl rfl (by decide) ?_
      refine V_bipush (pc := 161) (v := 24) dX9_copy_161 (by decide) ?_
      refine V_iln (pc := 163) dX9_copy_163 rfl rfl ?_
      refine V_imul (pc := 164) dX9_copy_164 ?_
      refine V_il (pc := 165) dX9_copy_165 rfl ?_
      refine V_iadd (pc := 167) dX9_copy_167 ?_
      refine V_il (pc := 168) dX9_copy_168 rfl ?_
      refine V_iadd (pc := 170) dX9_copy_170 ?_
      refine V_aln (pc := 171) dX9_copy_171 rfl rfl ?_
      refine M_gr (pc := 172) hM 26 314 dX9_copy_172 (FL_X9_52 rfl) rfl rfl (by decide) ?_
      refine V_il (pc := 175) dX9_copy_175 rfl ?_
      refine M_ia (pc := 177) hM 314 k dX9_copy_177 (by decide) (by decide) rfl (by show (_ : Nat) < 24; omega) ?_
      rw [va_up_ne _ _ (by decide), va_up_self, show lyd (fun j => tn (24 * f + p + j)) c0 N k = tn (24 * f + p + k) by unfold lyd; rw [if_pos (by omega)]]
      refine M_ias (pc := 178) hM 294 ((24 * t + a) + k) dX9_copy_178 (by decide) (by decide) (by simp only [fa_lit, nI_add, pk_mul]) (by show (_ : Nat) < 96; omega) ?_
      refine V_inc (pc := 179) (fun y => [(0, .ref m), (1, .int (nI f)), (2, .int (nI p)), (3, .int (nI t)), (4, .int (nI a)), (5, .int (nI N)), (6, .int y)]) (w := 1) dX9_copy_179 (by decide) (by decide) rfl (fun _ => rfl) (fun y179 ey179 => ?_)
      obtain rfl : y179 = nI (k + 1) := by rw [ey179]; exact nI_1 _
      refine V_goto (pc := 182) (t := 150) dX9_copy_182 (by decide) ?_
      rw [va_up_self, vu_vu, cpd_s]
      exact ih (k + 1) (by omega)
set_option maxRecDepth 100000 in
set_option maxHeartbeats 4000000 in
theorem m_copy_L1 {x : pX} {d : Nat} {S : pS} {m : Nat} {as : Nat → Nat} {F : Nat → Int32} {b : Nat × Nat} {Q : Int32 → pS → Prop} (hM : MF S m as) {A0 : Nat → Nat → Int32} {tn c0 : Nat → Int32} {f p t a N : Nat} (hf : f < 4) (ht : t < 4) (hp : p + N ≤ 24) (ha : a + N ≤ 24) (et : A0 294 = tn) (h : Q (nI N) (mP S m as (va_up (va_up A0 314 (lyd (fun j => tn (24 * f + p + j)) c0 N)) 294 (cpd tn (24 * f + p) (24 * t + a) N)) F)) : ∀ (c k : Nat), k + c = N → V x (d + 3) M_X9_copy (qi Q) b 113 [(0, .ref m), (1, .int (nI f)), (2, .int (nI p)), (3, .int (nI t)), (4, .int (nI a)), (5, .int (nI N)), (6, .int (nI k))] [] (mP S m as (va_up A0 314 (lyd (fun j => tn (24 * f + p + j)) c0 k)) F) := by
  intro c
  induction c with
  | zero =>
    intro k hk 
    refine V_il (pc := 113) dX9_copy_113 rfl ?_
    refine V_il (pc := 115) dX9_copy_115 rfl ?_
    refine V_cge (pc := 117) (t := 147) dX9_copy_117 (by decide) (fun h117 => ?_) (fun h117 => ?_)
    · refine V_iconst (pc := 147) (v := 0) dX9_copy_147 (by decide) ?_
      refine V_is (pc := 148) (fun y => [(0, .ref m), (1, .int (nI f)), (2, .int (nI p)), (3, .int (nI t)), (4, .int (nI a)), (5, .int (nI N)), (6, .int y)]) dX9_copy_148 (by decide) (fun _ => rfl) (fun y148 ey148 => ?_)
      obtain rfl : y148 = nI 0 := ey148
      obtain rfl : k = N := by omega
      have q := m_copy_L2 (b := b) (x := x) (d := d) (A0 := A0) (c0 := c0) (tn := tn) (f := f) (p := p) (t := t) (a := a) hM hf ht hp ha h k 0 (by omega)
      rw [cpd_0] at q
      have e : va_up (va_up A0 314 (lyd (fun j => tn (24 * f + p + j)) c0 k)) 294 tn = va_up A0 314 (lyd (fun j => tn (24 * f + p + j)) c0 k) := by
        funext g
        by_cases hg : g = 294
        · subst hg; rw [va_up_self, va_up_ne _ _ (by decide)]; exact et.symm
        · rw [va_up_ne _ _ hg]
      rw [e] at q
      exact q
    · exact absurd (nI_le (by omega) (by omega)) h117
  | succ c ih =>
    intro k hk 
    refine V_il (pc := 113) dX9_copy_113 rfl ?_
    refine V_il (pc := 115) dX9_copy_115 rfl ?_
    refine V_cge (pc := 117) (t := 147) dX9_copy_117 (by decide) (fun h117 => ?_) (fun h117 => ?_)
    · exact absurd h117 (nI_ge (by omega) (by omega))
    · refine V_aln (pc := 120) dX9_copy_120 rfl rfl ?_
      refine M_gr (pc := 121) hM 26 314 dX9_copy_121 (FL_X9_52 rfl) rfl rfl (by decide) ?_
      refine V_il (pc := 124) dX9_copy_124 rfl ?_
      refine V_aln (pc := 126) dX9_copy_126 rfl rfl ?_
      refine M_gr (pc := 127) hM 6 294 dX9_copy_127 (FL_X9_25 rfl) rfl rfl (by decide) ?_
      refine V_bipush (pc := 130) (v := 24) dX9_copy_130 (by decide) ?_
      refine V_iln (pc := 132) dX9_copy_132 rfl rfl ?_
      refine V_imul (pc := 133) dX9_copy_133 ?_
      refine V_iln (pc := 134) dX9_copy_134 rfl rfl ?_
      refine V_iadd (pc := 135) dX9_copy_135 ?_
      refine V_il (pc := 136) dX9_copy_136 rfl ?_
      refine V_iadd (pc := 138) dX9_copy_138 ?_
      refine M_ia (pc := 139) hM 294 ((24 * f + p) + k) dX9_copy_139 (by decide) (by decide) (by simp only [fa_lit, nI_add, pk_mul]) (by show (_ : Nat) < 96; omega) ?_
      rw [va_up_ne _ _ (by decide), et]
      refine M_ias (pc := 140) hM 314 k dX9_copy_140 (by decide) (by decide) rfl (by show (_ : Nat) < 24; omega) ?_
      refine V_inc (pc := 141) (fun y => [(0, .ref m), (1, .int (nI f)), (2, .int (nI p)), (3, .int (nI t)), (4, .int (nI a)), (5, .int (nI N)), (6, .int y)]) (w := 1) dX9_copy_141 (by decide) (by decide) rfl (fun _ => rfl) (fun y141 ey141 => ?_)
      obtain rfl : y141 = nI (k + 1) := by rw [ey141]; exact nI_1 _
      refine V_goto (pc := 144) (t := 113) dX9_copy_144 (by decide) ?_
      rw [va_up_self, vu_vu, lyd_s (fun j => tn (24 * f + p + j))]
      exact ih (k + 1) (by omega)
set_option maxRecDepth 100000 in
set_option maxHeartbeats 4000000 in
theorem M_copy {x : pX} {d : Nat} {S : pS} {m : Nat} {as : Nat → Nat} {A : Nat → Nat → Int32} {F : Nat → Int32} {Q : Int32 → pS → Prop} (hM : MF S m as) {f p t a N : Int32} (hS : SI (A 292) (A 293)) (h : ∀ r, Q (o_copy (A 292) (A 293) (A 294) f p t a N).1 (mP S m as (va_up (va_up A 314 r) 294 (o_copy (A 292) (A 293) (A 294) f p t a N).2) F)) : PI x (d + 3) M_X9_copy [.ref m, .int f, .int p, .int t, .int a, .int N] (mP S m as A F) Q := by
  unfold o_copy at h
  have hv : va_up (va_up A 314 (A 314)) 294 (A 294) = A := by rw [vu_self, vu_self]
  refine PM_of (by decide +kernel) (Nat.le_of_ble_eq_true rfl) ?_
  show V x (d + 3) M_X9_copy (qi Q) (0, 0) 0 [(0, .ref m), (1, .int f), (2, .int p), (3, .int t), (4, .int a), (5, .int N)] [] (mP S m as A F)
  refine V_iln (pc := 0) dX9_copy_0 rfl rfl ?_
  refine V_cSi0 (pc := 1) (jc_X9_297 dX9_copy_1 rfl) rfl rfl (Nat.le_of_ble_eq_true rfl) ?_
  refine m_isSheet (fun i hi ei ti ci => ?_) (fun ni => ?_)
  · subst ei
    obtain ⟨hso, z, hz, ez⟩ := hS i hi
    have tz : (nI z).toInt = z := nI_toInt (by omega)
    refine V_eq (pc := 4) (t := 14) dX9_copy_4 (by decide) (fun h => absurd h (by decide)) (fun _ => ?_)
    refine V_iln (pc := 7) dX9_copy_7 rfl rfl ?_
    refine V_cSi0 (pc := 8) (jc_X9_297 dX9_copy_8 rfl) rfl rfl (Nat.le_of_ble_eq_true rfl) ?_
    refine m_isSheet (fun j hj ej tj cj => ?_) (fun nj => ?_)
    · subst ej
      obtain ⟨hso2, z2, hz2, ez2⟩ := hS j hj
      have tz2 : (nI z2).toInt = z2 := nI_toInt (by omega)
      rw [if_pos (by omega), ci, cj] at h
      refine V_ne (pc := 11) (t := 17) dX9_copy_11 (by decide) (fun _ => ?_) (fun h => absurd h (by decide))
      refine V_aln (pc := 17) dX9_copy_17 rfl rfl ?_
      refine M_gr (pc := 18) hM 4 292 dX9_copy_18 (FL_X9_19 rfl) rfl rfl (by decide) ?_
      refine V_iln (pc := 21) dX9_copy_21 rfl rfl ?_
      refine M_ia (pc := 22) hM 292 i dX9_copy_22 (by decide) (by decide) rfl (by show (_ : Nat) < 4; omega) ?_
      refine V_lt (pc := 23) (t := 35) dX9_copy_23 (by decide) (fun h23 => ?_) (fun h23 => ?_)
      · rw [if_pos (Or.inl h23)] at h
        refine V_ldcw (pc := 35) dX9_copy_35 (KC_X9_303 rfl) ?_
        refine V_iret (pc := 38) dX9_copy_38 rfl rfl ?_
        have q := h (A 314)
        rw [hv] at q
        exact q
      · refine V_aln (pc := 26) dX9_copy_26 rfl rfl ?_
        refine M_gr (pc := 27) hM 4 292 dX9_copy_27 (FL_X9_19 rfl) rfl rfl (by decide) ?_
        refine V_iln (pc := 30) dX9_copy_30 rfl rfl ?_
        refine M_ia (pc := 31) hM 292 j dX9_copy_31 (by decide) (by decide) rfl (by show (_ : Nat) < 4; omega) ?_
        refine V_ge (pc := 32) (t := 39) dX9_copy_32 (by decide) (fun h32 => ?_) (fun h32 => ?_)
        · rw [if_neg (fun q => q.elim h23 (Int32.not_lt.mpr h32))] at h
          refine V_aln (pc := 39) dX9_copy_39 rfl rfl ?_
          refine M_gr (pc := 40) hM 4 292 dX9_copy_40 (FL_X9_19 rfl) rfl rfl (by decide) ?_
          refine V_iln (pc := 43) dX9_copy_43 rfl rfl ?_
          refine M_ia (pc := 44) hM 292 i dX9_copy_44 (by decide) (by decide) rfl (by show (_ : Nat) < 4; omega) ?_
          refine V_aln (pc := 45) dX9_copy_45 rfl rfl ?_
          refine M_gr (pc := 46) hM 4 292 dX9_copy_46 (FL_X9_19 rfl) rfl rfl (by decide) ?_
          refine V_iln (pc := 49) dX9_copy_49 rfl rfl ?_
          refine M_ia (pc := 50) hM 292 j dX9_copy_50 (by decide) (by decide) rfl (by show (_ : Nat) < 4; omega) ?_
          refine V_ceq (pc := 51) (t := 57) dX9_copy_51 (by decide) (fun h51 => ?_) (fun h51 => ?_)
          · rw [if_neg (fun q => q h51)] at h
            refine V_iln (pc := 57) dX9_copy_57 rfl rfl ?_
            refine V_lt (pc := 58) (t := 106) dX9_copy_58 (by decide) (fun h58 => ?_) (fun h58 => ?_)
            · have s1 : p.toInt < 0 := by have := (fa_lt p 0).mp h58; simpa using this
              rw [if_neg (by rw [ez, ez2]; omega)] at h
              refine V_ldcw (pc := 106) dX9_copy_106 (KC_X9_304 rfl) ?_
              refine V_iret (pc := 109) dX9_copy_109 rfl rfl ?_
              have q := h (A 314)
              rw [hv] at q
              exact q
            · have s1 : 0 ≤ p.toInt := by have := (fa_le 0 p).mp (Int32.not_lt.mp h58); simpa using this
              refine V_il (pc := 61) dX9_copy_61 rfl ?_
              refine V_lt (pc := 63) (t := 106) dX9_copy_63 (by decide) (fun h63 => ?_) (fun h63 => ?_)
              · have s2 : a.toInt < 0 := by have := (fa_lt a 0).mp h63; simpa using this
                rw [if_neg (by rw [ez, ez2]; omega)] at h
                refine V_ldcw (pc := 106) dX9_copy_106 (KC_X9_304 rfl) ?_
                refine V_iret (pc := 109) dX9_copy_109 rfl rfl ?_
                have q := h (A 314)
                rw [hv] at q
                exact q
              · have s2 : 0 ≤ a.toInt := by have := (fa_le 0 a).mp (Int32.not_lt.mp h63); simpa using this
                refine V_il (pc := 66) dX9_copy_66 rfl ?_
                refine V_lt (pc := 68) (t := 106) dX9_copy_68 (by decide) (fun h68 => ?_) (fun h68 => ?_)
                · have s3 : N.toInt < 0 := by have := (fa_lt N 0).mp h68; simpa using this
                  rw [if_neg (by rw [ez, ez2]; omega)] at h
                  refine V_ldcw (pc := 106) dX9_copy_106 (KC_X9_304 rfl) ?_
                  refine V_iret (pc := 109) dX9_copy_109 rfl rfl ?_
                  have q := h (A 314)
                  rw [hv] at q
                  exact q
                · have s3 : 0 ≤ N.toInt := by have := (fa_le 0 N).mp (Int32.not_lt.mp h68); simpa using this
                  refine V_iln (pc := 71) dX9_copy_71 rfl rfl ?_
                  refine V_i2l (pc := 72) dX9_copy_72 ?_
                  refine V_il (pc := 73) dX9_copy_73 rfl ?_
                  refine V_i2l (pc := 75) dX9_copy_75 ?_
                  refine V_ladd (pc := 76) dX9_copy_76 ?_
                  refine V_aln (pc := 77) dX9_copy_77 rfl rfl ?_
                  refine M_gr (pc := 78) hM 5 293 dX9_copy_78 (FL_X9_22 rfl) rfl rfl (by decide) ?_
                  refine V_iln (pc := 81) dX9_copy_81 rfl rfl ?_
                  refine M_ia (pc := 82) hM 293 i dX9_copy_82 (by decide) (by decide) rfl (by show (_ : Nat) < 4; omega) ?_
                  refine V_i2l (pc := 83) dX9_copy_83 ?_
                  refine V_lcmp (pc := 84) dX9_copy_84 ?_
                  refine V_gt (pc := 85) (t := 106) dX9_copy_85 (by decide) (fun h85 => ?_) (fun h85 => ?_)
                  · have s4 := cmp_gt h85
                    rw [l_add, i64_toInt, ez, tz] at s4
                    rw [if_neg (by rw [ez, ez2]; omega)] at h
                    refine V_ldcw (pc := 106) dX9_copy_106 (KC_X9_304 rfl) ?_
                    refine V_iret (pc := 109) dX9_copy_109 rfl rfl ?_
                    have q := h (A 314)
                    rw [hv] at q
                    exact q
                  · have s4 := cmp_ngt h85
                    rw [l_add, i64_toInt, ez, tz] at s4
                    refine V_il (pc := 88) dX9_copy_88 rfl ?_
                    refine V_i2l (pc := 90) dX9_copy_90 ?_
                    refine V_il (pc := 91) dX9_copy_91 rfl ?_
                    refine V_i2l (pc := 93) dX9_copy_93 ?_
                    refine V_ladd (pc := 94) dX9_copy_94 ?_
                    refine V_aln (pc := 95) dX9_copy_95 rfl rfl ?_
                    refine M_gr (pc := 96) hM 5 293 dX9_copy_96 (FL_X9_22 rfl) rfl rfl (by decide) ?_
                    refine V_iln (pc := 99) dX9_copy_99 rfl rfl ?_
                    refine M_ia (pc := 100) hM 293 j dX9_copy_100 (by decide) (by decide) rfl (by show (_ : Nat) < 4; omega) ?_
                    refine V_i2l (pc := 101) dX9_copy_101 ?_
                    refine V_lcmp (pc := 102) dX9_copy_102 ?_
                    refine V_le (pc := 103) (t := 110) dX9_copy_103 (by decide) (fun h103 => ?_) (fun h103 => ?_)
                    · have s5 := cmp_ngt (Int32.not_lt.mpr h103)
                      rw [l_add, i64_toInt, ez2, tz2] at s5
                      rw [if_pos ⟨s1, s2, s3, by rw [ez, tz]; exact s4, by rw [ez2, tz2]; exact s5⟩] at h
                      obtain ⟨p1, hp1, e1, e2, e3⟩ := idx_of (w := p) (n := 25) (by decide) (by omega) (by omega)
                      obtain ⟨a1, ha1, f1, f2, f3⟩ := idx_of (w := a) (n := 25) (by decide) (by omega) (by omega)
                      obtain ⟨n1, hn1, g1, g2, g3⟩ := idx_of (w := N) (n := 25) (by decide) (by omega) (by omega)
                      subst e1; subst f1; subst g1
                      rw [e3, f3, g3] at h
                      refine V_iconst (pc := 110) (v := 0) dX9_copy_110 (by decide) ?_
                      refine V_is (pc := 111) (fun y => [(0, .ref m), (1, .int (nI i)), (2, .int (nI p1)), (3, .int (nI j)), (4, .int (nI a1)), (5, .int (nI n1)), (6, .int y)]) dX9_copy_111 (by decide) (fun _ => rfl) (fun y111 ey111 => ?_)
                      obtain rfl : y111 = nI 0 := ey111
                      have q := m_copy_L1 (b := (0, 0)) (x := x) (d := d) (A0 := A) (c0 := A 314) (tn := A 294) (F := F) hM hi hj (show p1 + n1 ≤ 24 by omega) (show a1 + n1 ≤ 24 by omega) rfl (h _) n1 0 (by omega)
                      rw [lyd_0, vu_self] at q
                      exact q
                    · have s5 := cmp_gt (Int32.not_le.mp h103)
                      rw [l_add, i64_toInt, ez2, tz2] at s5
                      rw [if_neg (by rw [ez, ez2]; omega)] at h
                      refine V_ldcw (pc := 106) dX9_copy_106 (KC_X9_304 rfl) ?_
                      refine V_iret (pc := 109) dX9_copy_109 rfl rfl ?_
                      have q := h (A 314)
                      rw [hv] at q
                      exact q
          · rw [if_pos h51] at h
            refine V_ldc (pc := 54) dX9_copy_54 (KC_X9_119 rfl) ?_
            refine V_iret (pc := 56) dX9_copy_56 rfl rfl ?_
            have q := h (A 314)
            rw [hv] at q
            exact q
        · rw [if_pos (Or.inr (Int32.not_le.mp h32))] at h
          refine V_ldcw (pc := 35) dX9_copy_35 (KC_X9_303 rfl) ?_
          refine V_iret (pc := 38) dX9_copy_38 rfl rfl ?_
          have q := h (A 314)
          rw [hv] at q
          exact q
    · rw [if_neg (by omega)] at h
      refine V_ne (pc := 11) (t := 17) dX9_copy_11 (by decide) (fun h => absurd h (by decide)) (fun _ => ?_)
      refine V_ldc (pc := 14) dX9_copy_14 (KC_X9_82 rfl) ?_
      refine V_iret (pc := 16) dX9_copy_16 rfl rfl ?_
      have q := h (A 314)
      rw [hv] at q
      exact q
  · rw [if_neg (by omega)] at h
    refine V_eq (pc := 4) (t := 14) dX9_copy_4 (by decide) (fun _ => ?_) (fun h => absurd h (by decide))
    refine V_ldc (pc := 14) dX9_copy_14 (KC_X9_82 rfl) ?_
    refine V_iret (pc := 16) dX9_copy_16 rfl rfl ?_
    have q := h (A 314)
    rw [hv] at q
    exact q
/-- what slots hold: the thing, its number, its worth, its size, its row -/
abbrev hT : Type := (Nat → Int32) × (Nat → Int32) × (Nat → Int32) × (Nat → Int32) × (Nat → Int32)
def uH (A : Nat → Nat → Int32) (q : hT) : Nat → Nat → Int32 := va_up (va_up (va_up (va_up (va_up A 295 q.1) 296 q.2.1) 297 q.2.2.1) 298 q.2.2.2.1) 299 q.2.2.2.2
theorem uH_self (A : Nat → Nat → Int32) : uH A (A 295, A 296, A 297, A 298, A 299) = A := by
  show va_up (va_up (va_up (va_up (va_up A 295 (A 295)) 296 (A 296)) 297 (A 297)) 298 (A 298)) 299 (A 299) = A
  rw [vu_self, vu_self, vu_self, vu_self, vu_self]
/-- 24 numbers of another row laid into one -/
def lyr (f g : Nat → Int32) (p q N : Nat) : Nat → Int32 := fun j => if q ≤ j ∧ j < q + N then f (p + (j - q)) else g j
theorem lyr_0 (f g : Nat → Int32) (p q : Nat) : lyr f g p q 0 = g := by funext j; unfold lyr; rw [if_neg (by omega)]
theorem lyr_s (f g : Nat → Int32) (p q k : Nat) : upd (lyr f g p q k) (q + k) (f (p + k)) = lyr f g p q (k + 1) := by
  funext j
  by_cases hj : j = q + k
  · subst hj; rw [pk_us]; unfold lyr; rw [if_pos (by omega), show q + k - q = k by omega]
  · rw [pk_un hj]; unfold lyr
    by_cases h2 : q ≤ j ∧ j < q + k
    · rw [if_pos h2, if_pos (by omega)]
    · rw [if_neg h2, if_neg (by omega)]
def o_lay (σ ts tz tn : Nat → Int32) (n : Nat) (q : hT) (s th k : Int32) : Int32 × hT :=
  if (0 ≤ s.toInt ∧ s.toInt ≤ 4) ∧ (th = 0 ∨ th = 3 ∨ (th = 1 ∧ 0 ≤ k.toInt ∧ k.toInt < n) ∨ (th = 2 ∧ 0 ≤ k.toInt ∧ k.toInt ≤ 3)) then
    (if th = 2 ∧ ts k.toNatClampNeg < 0 then (-1000000011, q) else
      (q.1 s.toNatClampNeg, upd q.1 s.toNatClampNeg th, upd q.2.1 s.toNatClampNeg (if th = 1 then σ (14 + 4 * k.toNatClampNeg + 0) else k), upd q.2.2.1 s.toNatClampNeg (if th = 1 then fworth (σ (14 + 4 * k.toNatClampNeg + 0)) (σ (14 + 4 * k.toNatClampNeg + 2)) (σ (14 + 4 * k.toNatClampNeg + 3)) else 0), (if th = 2 then upd q.2.2.2.1 s.toNatClampNeg (tz k.toNatClampNeg) else q.2.2.2.1), (if th = 2 then lyr tn q.2.2.2.2 (24 * k.toNatClampNeg) (24 * s.toNatClampNeg) 24 else q.2.2.2.2)))
  else (-1000000001, q)
set_option maxRecDepth 100000 in
set_option maxHeartbeats 4000000 in
theorem m_lay_L {x : pX} {d : Nat} {S : pS} {m : Nat} {as : Nat → Nat} {F : Nat → Int32} {b : Nat × Nat} {Q : Int32 → pS → Prop} (hM : MF S m as) {A0 : Nat → Nat → Int32} {th g was : Int32} {tn r0 : Nat → Int32} {i j : Nat} (hi : i < 5) (hj : j < 4) (et : A0 294 = tn) (h : Q was (mP S m as (va_up A0 299 (lyr tn r0 (24 * j) (24 * i) 24)) F)) : ∀ (c k : Nat), k + c = 24 → V x (d + 3) M_X9_lay (qi Q) b 150 [(0, .ref m), (1, .int (nI i)), (2, .int th), (3, .int (nI j)), (4, .int g), (5, .int was), (6, .int (nI k))] [] (mP S m as (va_up A0 299 (lyr tn r0 (24 * j) (24 * i) k)) F) := by
  intro c
  induction c with
  | zero =>
    intro k hk 
    refine V_il (pc := 150) dX9_lay_150 rfl ?_
    refine V_bipush (pc := 152) (v := 24) dX9_lay_152 (by decide) ?_
    refine V_cge (pc := 154) (t := 187) dX9_lay_154 (by decide) (fun h154 => ?_) (fun h154 => ?_)
    · refine V_il (pc := 187) dX9_lay_187 rfl ?_
      refine V_iret (pc := 189) dX9_lay_189 rfl rfl ?_
      obtain rfl : k = 24 := by omega
      exact h
    · exact absurd (nI_le (a := 24) (by omega) (by omega)) h154
  | succ c ih =>
    intro k hk 
    refine V_il (pc := 150) dX9_lay_150 rfl ?_
    refine V_bipush (pc := 152) (v := 24) dX9_lay_152 (by decide) ?_
    refine V_cge (pc := 154) (t := 187) dX9_lay_154 (by decide) (fun h154 => ?_) (fun h154 => ?_)
    · exact absurd h154 (nI_ge (b := 24) (by omega) (by decide))
    · refine V_aln (pc := 157) dX9_lay_157 rfl rfl ?_
      refine M_gr (pc := 158) hM 11 299 dX9_lay_158 (FL_X9_40 rfl) rfl rfl (by decide) ?_
      refine V_bipush (pc := 161) (v := 24) dX9_lay_161 (by decide) ?_
      refine V_iln (pc := 163) dX9_lay_163 rfl rfl ?_
      refine V_imul (pc := 164) dX9_lay_164 ?_
      refine V_il (pc := 165) dX9_lay_165 rfl ?_
      refine V_iadd (pc := 167) dX9_lay_167 ?_
      refine V_aln (pc := 168) dX9_lay_168 rfl rfl ?_
      refine M_gr (pc := 169) hM 6 294 dX9_lay_169 (FL_X9_25 rfl) rfl rfl (by decide) ?_
      refine V_bipush (pc := 172) (v := 24) dX9_lay_172 (by decide) ?_
      refine V_iln (pc := 174) dX9_lay_174 rfl rfl ?_
      refine V_imul (pc := 175) dX9_lay_175 ?_
      refine V_il (pc := 176) dX9_lay_176 rfl ?_
      refine V_iadd (pc := 178) dX9_lay_178 ?_
      refine M_ia (pc := 179) hM 294 (24 * j + k) dX9_lay_179 (by decide) (by decide) (by simp only [fa_lit, nI_add, pk_mul]) (by show (_ : Nat) < 96; omega) ?_
      rw [va_up_ne _ _ (by decide), et]
      refine M_ias (pc := 180) hM 299 (24 * i + k) dX9_lay_180 (by decide) (by decide) (by simp only [fa_lit, nI_add, pk_mul]) (by show (_ : Nat) < 120; omega) ?_
      refine V_inc (pc := 181) (fun y => [(0, .ref m), (1, .int (nI i)), (2, .int th), (3, .int (nI j)), (4, .int g), (5, .int was), (6, .int y)]) (w := 1) dX9_lay_181 (by decide) (by decide) rfl (fun _ => rfl) (fun y181 ey181 => ?_)
      obtain rfl : y181 = nI (k + 1) := by rw [ey181]; exact nI_1 _
      refine V_goto (pc := 184) (t := 150) dX9_lay_184 (by decide) ?_
      rw [va_up_self, vu_vu, lyr_s]
      exact ih (k + 1) (by omega)
theorem vu_selfE {α : Type} {f : Nat → α} {k : Nat} {v : α} (h : f k = v) : va_up f k v = f := by rw [← h]; exact vu_self f k
theorem uH_3 (A : Nat → Nat → Int32) (a b c : Nat → Int32) : uH A (a, b, c, A 298, A 299) = va_up (va_up (va_up A 295 a) 296 b) 297 c := by
  show va_up (va_up (va_up (va_up (va_up A 295 a) 296 b) 297 c) 298 (A 298)) 299 (A 299) = _
  rw [vu_selfE (f := va_up (va_up (va_up A 295 a) 296 b) 297 c) (k := 298) (v := A 298) rfl, vu_selfE (f := va_up (va_up (va_up A 295 a) 296 b) 297 c) (k := 299) (v := A 299) rfl]
set_option maxRecDepth 100000 in
set_option maxHeartbeats 4000000 in
theorem M_lay {x : pX} {d : Nat} {S : pS} {m : Nat} {as : Nat → Nat} {A : Nat → Nat → Int32} {F : Nat → Int32} {Q : Int32 → pS → Prop} (hM : MF S m as) {n nt np : Nat} {s th k : Int32} (hS : SI (A 292) (A 293)) (hI : MI (A 288) n nt np) (h : Q (o_lay (A 288) (A 292) (A 293) (A 294) n (A 295, A 296, A 297, A 298, A 299) s th k).1 (mP S m as (uH A (o_lay (A 288) (A 292) (A 293) (A 294) n (A 295, A 296, A 297, A 298, A 299) s th k).2) F)) : PI x (d + 3) M_X9_lay [.ref m, .int s, .int th, .int k] (mP S m as A F) Q := by
  have hn10 := hI.1.2
  unfold o_lay at h
  refine PM_of (by decide +kernel) (Nat.le_of_ble_eq_true rfl) ?_
  show V x (d + 3) M_X9_lay (qi Q) (0, 0) 0 [(0, .ref m), (1, .int s), (2, .int th), (3, .int k)] [] (mP S m as A F)
  refine V_iln (pc := 0) dX9_lay_0 rfl rfl ?_
  refine V_eq (pc := 1) (t := 34) dX9_lay_1 (by decide) (fun h1 => ?_) (fun h1 => ?_)
  · subst h1
    refine V_iconst (pc := 34) (v := 1) dX9_lay_34 (by decide) ?_
    refine V_goto (pc := 35) (t := 39) dX9_lay_35 (by decide) ?_
    refine V_is (pc := 39) (fun y => [(0, .ref m), (1, .int s), (2, .int 0), (3, .int k), (4, .int y)]) dX9_lay_39 (by decide) (fun _ => rfl) (fun y39 ey39 => ?_)
    refine V_iln (pc := 41) dX9_lay_41 rfl rfl ?_
    refine V_cSi0 (pc := 42) (jc_X9_311 dX9_lay_42 rfl) rfl rfl (Nat.le_of_ble_eq_true rfl) ?_
    refine m_isSlot (fun i hi ei ti ci => ?_) (fun ni => ?_)
    · subst ei
      refine V_eq (pc := 45) (t := 53) dX9_lay_45 (by decide) (fun h => absurd h (by decide)) (fun _ => ?_)
      refine V_il (pc := 48) dX9_lay_48 rfl ?_
      refine V_ne (pc := 50) (t := 56) dX9_lay_50 (by decide) (fun h50 => ?_) (fun h50 => ?_)
      · rw [if_pos ⟨by omega, Or.inl rfl⟩, ci] at h
        rw [if_neg (fun q => absurd q.1 (by decide))] at h
        simp only [if_neg (show ¬ (0 : Int32) = 1 by decide), if_neg (show ¬ (0 : Int32) = 2 by decide)] at h
        refine V_iln (pc := 56) dX9_lay_56 rfl rfl ?_
        refine V_iconst (pc := 57) (v := 2) dX9_lay_57 (by decide) ?_
        refine V_cne (pc := 58) (t := 74) dX9_lay_58 (by decide) (fun _ => ?_) (fun h => absurd h (by decide))
        refine V_aln (pc := 74) dX9_lay_74 rfl rfl ?_
        refine M_gr (pc := 75) hM 7 295 dX9_lay_75 (FL_X9_28 rfl) rfl rfl (by decide) ?_
        refine V_iln (pc := 78) dX9_lay_78 rfl rfl ?_
        refine M_ia (pc := 79) hM 295 i dX9_lay_79 (by decide) (by decide) rfl (by show (_ : Nat) < 5; omega) ?_
        refine V_is (pc := 80) (fun y => [(0, .ref m), (1, .int (nI i)), (2, .int 0), (3, .int k), (4, .int y39), (5, .int y)]) dX9_lay_80 (by decide) (fun _ => rfl) (fun y80 ey80 => ?_)
        refine V_aln (pc := 82) dX9_lay_82 rfl rfl ?_
        refine M_gr (pc := 83) hM 7 295 dX9_lay_83 (FL_X9_28 rfl) rfl rfl (by decide) ?_
        refine V_iln (pc := 86) dX9_lay_86 rfl rfl ?_
        refine V_iln (pc := 87) dX9_lay_87 rfl rfl ?_
        refine M_ias (pc := 88) hM 295 i dX9_lay_88 (by decide) (by decide) rfl (by show (_ : Nat) < 5; omega) ?_
        refine V_aln (pc := 89) dX9_lay_89 rfl rfl ?_
        refine M_gr (pc := 90) hM 8 296 dX9_lay_90 (FL_X9_31 rfl) rfl rfl (by decide) ?_
        refine V_iln (pc := 93) dX9_lay_93 rfl rfl ?_
        refine V_iln (pc := 94) dX9_lay_94 rfl rfl ?_
        refine V_iconst (pc := 95) (v := 1) dX9_lay_95 (by decide) ?_
        refine V_cne (pc := 96) (t := 108) dX9_lay_96 (by decide) (fun _ => ?_) (fun h => absurd h (by decide))
        refine V_iln (pc := 108) dX9_lay_108 rfl rfl ?_
        refine M_ias (pc := 109) hM 296 i dX9_lay_109 (by decide) (by decide) rfl (by show (_ : Nat) < 5; omega) ?_
        refine V_aln (pc := 110) dX9_lay_110 rfl rfl ?_
        refine M_gr (pc := 111) hM 9 297 dX9_lay_111 (FL_X9_34 rfl) rfl rfl (by decide) ?_
        refine V_iln (pc := 114) dX9_lay_114 rfl rfl ?_
        refine V_iln (pc := 115) dX9_lay_115 rfl rfl ?_
        refine V_iconst (pc := 116) (v := 1) dX9_lay_116 (by decide) ?_
        refine V_cne (pc := 117) (t := 128) dX9_lay_117 (by decide) (fun _ => ?_) (fun h => absurd h (by decide))
        refine V_iconst (pc := 128) (v := 0) dX9_lay_128 (by decide) ?_
        refine M_ias (pc := 129) hM 297 i dX9_lay_129 (by decide) (by decide) rfl (by show (_ : Nat) < 5; omega) ?_
        refine V_iln (pc := 130) dX9_lay_130 rfl rfl ?_
        refine V_iconst (pc := 131) (v := 2) dX9_lay_131 (by decide) ?_
        refine V_cne (pc := 132) (t := 187) dX9_lay_132 (by decide) (fun _ => ?_) (fun h => absurd h (by decide))
        refine V_il (pc := 187) dX9_lay_187 rfl ?_
        refine V_iret (pc := 189) dX9_lay_189 rfl rfl ?_
        rw [ey80]
        rw [uH_3] at h
        exact h
      · exact absurd (ey39.symm.trans h50) (by decide)
    · rw [if_neg (fun q => ni q.1), uH_self] at h
      refine V_eq (pc := 45) (t := 53) dX9_lay_45 (by decide) (fun _ => ?_) (fun h => absurd h (by decide))
      refine V_ldc (pc := 53) dX9_lay_53 (KC_X9_82 rfl) ?_
      refine V_iret (pc := 55) dX9_lay_55 rfl rfl ?_
      exact h
  · refine V_iln (pc := 4) dX9_lay_4 rfl rfl ?_
    refine V_iconst (pc := 5) (v := 3) dX9_lay_5 (by decide) ?_
    refine V_ceq (pc := 6) (t := 34) dX9_lay_6 (by decide) (fun h6 => ?_) (fun h6 => ?_)
    · subst h6
      refine V_iconst (pc := 34) (v := 1) dX9_lay_34 (by decide) ?_
      refine V_goto (pc := 35) (t := 39) dX9_lay_35 (by decide) ?_
      refine V_is (pc := 39) (fun y => [(0, .ref m), (1, .int s), (2, .int 3), (3, .int k), (4, .int y)]) dX9_lay_39 (by decide) (fun _ => rfl) (fun y39 ey39 => ?_)
      refine V_iln (pc := 41) dX9_lay_41 rfl rfl ?_
      refine V_cSi0 (pc := 42) (jc_X9_311 dX9_lay_42 rfl) rfl rfl (Nat.le_of_ble_eq_true rfl) ?_
      refine m_isSlot (fun i hi ei ti ci => ?_) (fun ni => ?_)
      · subst ei
        refine V_eq (pc := 45) (t := 53) dX9_lay_45 (by decide) (fun h => absurd h (by decide)) (fun _ => ?_)
        refine V_il (pc := 48) dX9_lay_48 rfl ?_
        refine V_ne (pc := 50) (t := 56) dX9_lay_50 (by decide) (fun h50 => ?_) (fun h50 => ?_)
        · rw [if_pos ⟨by omega, Or.inr (Or.inl rfl)⟩, ci] at h
          rw [if_neg (fun q => absurd q.1 (by decide))] at h
          simp only [if_neg (show ¬ (3 : Int32) = 1 by decide), if_neg (show ¬ (3 : Int32) = 2 by decide)] at h
          refine V_iln (pc := 56) dX9_lay_56 rfl rfl ?_
          refine V_iconst (pc := 57) (v := 2) dX9_lay_57 (by decide) ?_
          refine V_cne (pc := 58) (t := 74) dX9_lay_58 (by decide) (fun _ => ?_) (fun h => absurd h (by decide))
          refine V_aln (pc := 74) dX9_lay_74 rfl rfl ?_
          refine M_gr (pc := 75) hM 7 295 dX9_lay_75 (FL_X9_28 rfl) rfl rfl (by decide) ?_
          refine V_iln (pc := 78) dX9_lay_78 rfl rfl ?_
          refine M_ia (pc := 79) hM 295 i dX9_lay_79 (by decide) (by decide) rfl (by show (_ : Nat) < 5; omega) ?_
          refine V_is (pc := 80) (fun y => [(0, .ref m), (1, .int (nI i)), (2, .int 3), (3, .int k), (4, .int y39), (5, .int y)]) dX9_lay_80 (by decide) (fun _ => rfl) (fun y80 ey80 => ?_)
          refine V_aln (pc := 82) dX9_lay_82 rfl rfl ?_
          refine M_gr (pc := 83) hM 7 295 dX9_lay_83 (FL_X9_28 rfl) rfl rfl (by decide) ?_
          refine V_iln (pc := 86) dX9_lay_86 rfl rfl ?_
          refine V_iln (pc := 87) dX9_lay_87 rfl rfl ?_
          refine M_ias (pc := 88) hM 295 i dX9_lay_88 (by decide) (by decide) rfl (by show (_ : Nat) < 5; omega) ?_
          refine V_aln (pc := 89) dX9_lay_89 rfl rfl ?_
          refine M_gr (pc := 90) hM 8 296 dX9_lay_90 (FL_X9_31 rfl) rfl rfl (by decide) ?_
          refine V_iln (pc := 93) dX9_lay_93 rfl rfl ?_
          refine V_iln (pc := 94) dX9_lay_94 rfl rfl ?_
          refine V_iconst (pc := 95) (v := 1) dX9_lay_95 (by decide) ?_
          refine V_cne (pc := 96) (t := 108) dX9_lay_96 (by decide) (fun _ => ?_) (fun h => absurd h (by decide))
          refine V_iln (pc := 108) dX9_lay_108 rfl rfl ?_
          refine M_ias (pc := 109) hM 296 i dX9_lay_109 (by decide) (by decide) rfl (by show (_ : Nat) < 5; omega) ?_
          refine V_aln (pc := 110) dX9_lay_110 rfl rfl ?_
          refine M_gr (pc := 111) hM 9 297 dX9_lay_111 (FL_X9_34 rfl) rfl rfl (by decide) ?_
          refine V_iln (pc := 114) dX9_lay_114 rfl rfl ?_
          refine V_iln (pc := 115) dX9_lay_115 rfl rfl ?_
          refine V_iconst (pc := 116) (v := 1) dX9_lay_116 (by decide) ?_
          refine V_cne (pc := 117) (t := 128) dX9_lay_117 (by decide) (fun _ => ?_) (fun h => absurd h (by decide))
          refine V_iconst (pc := 128) (v := 0) dX9_lay_128 (by decide) ?_
          refine M_ias (pc := 129) hM 297 i dX9_lay_129 (by decide) (by decide) rfl (by show (_ : Nat) < 5; omega) ?_
          refine V_iln (pc := 130) dX9_lay_130 rfl rfl ?_
          refine V_iconst (pc := 131) (v := 2) dX9_lay_131 (by decide) ?_
          refine V_cne (pc := 132) (t := 187) dX9_lay_132 (by decide) (fun _ => ?_) (fun h => absurd h (by decide))
          refine V_il (pc := 187) dX9_lay_187 rfl ?_
          refine V_iret (pc := 189) dX9_lay_189 rfl rfl ?_
          rw [ey80]
          rw [uH_3] at h
          exact h
        · exact absurd (ey39.symm.trans h50) (by decide)
      · rw [if_neg (fun q => ni q.1), uH_self] at h
        refine V_eq (pc := 45) (t := 53) dX9_lay_45 (by decide) (fun _ => ?_) (fun h => absurd h (by decide))
        refine V_ldc (pc := 53) dX9_lay_53 (KC_X9_82 rfl) ?_
        refine V_iret (pc := 55) dX9_lay_55 rfl rfl ?_
        exact h
    · refine V_iln (pc := 9) dX9_lay_9 rfl rfl ?_
      refine V_iconst (pc := 10) (v := 1) dX9_lay_10 (by decide) ?_
      refine V_cne (pc := 11) (t := 22) dX9_lay_11 (by decide) (fun h11 => ?_) (fun h11 => ?_)
      · refine V_iln (pc := 22) dX9_lay_22 rfl rfl ?_
        refine V_iconst (pc := 23) (v := 2) dX9_lay_23 (by decide) ?_
        refine V_cne (pc := 24) (t := 38) dX9_lay_24 (by decide) (fun h24 => ?_) (fun h24 => ?_)
        · refine V_iconst (pc := 38) (v := 0) dX9_lay_38 (by decide) ?_
          refine V_is (pc := 39) (fun y => [(0, .ref m), (1, .int s), (2, .int th), (3, .int k), (4, .int y)]) dX9_lay_39 (by decide) (fun _ => rfl) (fun y39 ey39 => ?_)
          refine V_iln (pc := 41) dX9_lay_41 rfl rfl ?_
          refine V_cSi0 (pc := 42) (jc_X9_311 dX9_lay_42 rfl) rfl rfl (Nat.le_of_ble_eq_true rfl) ?_
          refine m_isSlot (fun i hi ei ti ci => ?_) (fun ni => ?_)
          · subst ei
            refine V_eq (pc := 45) (t := 53) dX9_lay_45 (by decide) (fun h => absurd h (by decide)) (fun _ => ?_)
            refine V_il (pc := 48) dX9_lay_48 rfl ?_
            refine V_ne (pc := 50) (t := 56) dX9_lay_50 (by decide) (fun h50 => ?_) (fun h50 => ?_)
            · exact absurd ey39 h50
            · rw [if_neg (by rintro ⟨_, e | e | ⟨e, f⟩ | ⟨e, f⟩⟩ <;> first | exact h1 e | exact h6 e | exact h11 e | exact h24 e | exact absurd e (by decide) | omega), uH_self] at h
              refine V_ldc (pc := 53) dX9_lay_53 (KC_X9_82 rfl) ?_
              refine V_iret (pc := 55) dX9_lay_55 rfl rfl ?_
              exact h
          · rw [if_neg (fun q => ni q.1), uH_self] at h
            refine V_eq (pc := 45) (t := 53) dX9_lay_45 (by decide) (fun _ => ?_) (fun h => absurd h (by decide))
            refine V_ldc (pc := 53) dX9_lay_53 (KC_X9_82 rfl) ?_
            refine V_iret (pc := 55) dX9_lay_55 rfl rfl ?_
            exact h
        · refine V_iln (pc := 27) dX9_lay_27 rfl rfl ?_
          refine V_cSi0 (pc := 28) (jc_X9_297 dX9_lay_28 rfl) rfl rfl (Nat.le_of_ble_eq_true rfl) ?_
          refine m_isSheet (fun j hj ej tj cj => ?_) (fun nj => ?_)
          · subst ej
            subst h24
            obtain ⟨hso, z, hz, ez⟩ := hS j hj
            refine V_eq (pc := 31) (t := 38) dX9_lay_31 (by decide) (fun h => absurd h (by decide)) (fun _ => ?_)
            refine V_iconst (pc := 34) (v := 1) dX9_lay_34 (by decide) ?_
            refine V_goto (pc := 35) (t := 39) dX9_lay_35 (by decide) ?_
            refine V_is (pc := 39) (fun y => [(0, .ref m), (1, .int s), (2, .int 2), (3, .int (nI j)), (4, .int y)]) dX9_lay_39 (by decide) (fun _ => rfl) (fun y39 ey39 => ?_)
            refine V_iln (pc := 41) dX9_lay_41 rfl rfl ?_
            refine V_cSi0 (pc := 42) (jc_X9_311 dX9_lay_42 rfl) rfl rfl (Nat.le_of_ble_eq_true rfl) ?_
            refine m_isSlot (fun i hi ei ti ci => ?_) (fun ni => ?_)
            · subst ei
              refine V_eq (pc := 45) (t := 53) dX9_lay_45 (by decide) (fun h => absurd h (by decide)) (fun _ => ?_)
              refine V_il (pc := 48) dX9_lay_48 rfl ?_
              refine V_ne (pc := 50) (t := 56) dX9_lay_50 (by decide) (fun h50 => ?_) (fun h50 => ?_)
              · rw [if_pos ⟨by omega, Or.inr (Or.inr (Or.inr ⟨rfl, by omega, by omega⟩))⟩, ci] at h
                rw [cj] at h
                refine V_iln (pc := 56) dX9_lay_56 rfl rfl ?_
                refine V_iconst (pc := 57) (v := 2) dX9_lay_57 (by decide) ?_
                refine V_cne (pc := 58) (t := 74) dX9_lay_58 (by decide) (fun h => absurd h (by decide)) (fun _ => ?_)
                refine V_aln (pc := 61) dX9_lay_61 rfl rfl ?_
                refine M_gr (pc := 62) hM 4 292 dX9_lay_62 (FL_X9_19 rfl) rfl rfl (by decide) ?_
                refine V_iln (pc := 65) dX9_lay_65 rfl rfl ?_
                refine M_ia (pc := 66) hM 292 j dX9_lay_66 (by decide) (by decide) rfl (by show (_ : Nat) < 4; omega) ?_
                refine V_ge (pc := 67) (t := 74) dX9_lay_67 (by decide) (fun h67 => ?_) (fun h67 => ?_)
                · rw [if_neg (fun q => Int32.not_lt.mpr h67 q.2)] at h
                  simp only [if_neg (show ¬ (2 : Int32) = 1 by decide), if_pos (show (2 : Int32) = 2 from rfl)] at h
                  refine V_aln (pc := 74) dX9_lay_74 rfl rfl ?_
                  refine M_gr (pc := 75) hM 7 295 dX9_lay_75 (FL_X9_28 rfl) rfl rfl (by decide) ?_
                  refine V_iln (pc := 78) dX9_lay_78 rfl rfl ?_
                  refine M_ia (pc := 79) hM 295 i dX9_lay_79 (by decide) (by decide) rfl (by show (_ : Nat) < 5; omega) ?_
                  refine V_is (pc := 80) (fun y => [(0, .ref m), (1, .int (nI i)), (2, .int 2), (3, .int (nI j)), (4, .int y39), (5, .int y)]) dX9_lay_80 (by decide) (fun _ => rfl) (fun y80 ey80 => ?_)
                  refine V_aln (pc := 82) dX9_lay_82 rfl rfl ?_
                  refine M_gr (pc := 83) hM 7 295 dX9_lay_83 (FL_X9_28 rfl) rfl rfl (by decide) ?_
                  refine V_iln (pc := 86) dX9_lay_86 rfl rfl ?_
                  refine V_iln (pc := 87) dX9_lay_87 rfl rfl ?_
                  refine M_ias (pc := 88) hM 295 i dX9_lay_88 (by decide) (by decide) rfl (by show (_ : Nat) < 5; omega) ?_
                  refine V_aln (pc := 89) dX9_lay_89 rfl rfl ?_
                  refine M_gr (pc := 90) hM 8 296 dX9_lay_90 (FL_X9_31 rfl) rfl rfl (by decide) ?_
                  refine V_iln (pc := 93) dX9_lay_93 rfl rfl ?_
                  refine V_iln (pc := 94) dX9_lay_94 rfl rfl ?_
                  refine V_iconst (pc := 95) (v := 1) dX9_lay_95 (by decide) ?_
                  refine V_cne (pc := 96) (t := 108) dX9_lay_96 (by decide) (fun _ => ?_) (fun h => absurd h (by decide))
                  refine V_iln (pc := 108) dX9_lay_108 rfl rfl ?_
                  refine M_ias (pc := 109) hM 296 i dX9_lay_109 (by decide) (by decide) rfl (by show (_ : Nat) < 5; omega) ?_
                  refine V_aln (pc := 110) dX9_lay_110 rfl rfl ?_
                  refine M_gr (pc := 111) hM 9 297 dX9_lay_111 (FL_X9_34 rfl) rfl rfl (by decide) ?_
                  refine V_iln (pc := 114) dX9_lay_114 rfl rfl ?_
                  refine V_iln (pc := 115) dX9_lay_115 rfl rfl ?_
                  refine V_iconst (pc := 116) (v := 1) dX9_lay_116 (by decide) ?_
                  refine V_cne (pc := 117) (t := 128) dX9_lay_117 (by decide) (fun _ => ?_) (fun h => absurd h (by decide))
                  refine V_iconst (pc := 128) (v := 0) dX9_lay_128 (by decide) ?_
                  refine M_ias (pc := 129) hM 297 i dX9_lay_129 (by decide) (by decide) rfl (by show (_ : Nat) < 5; omega) ?_
                  refine V_iln (pc := 130) dX9_lay_130 rfl rfl ?_
                  refine V_iconst (pc := 131) (v := 2) dX9_lay_131 (by decide) ?_
                  refine V_cne (pc := 132) (t := 187) dX9_lay_132 (by decide) (fun h => absurd h (by decide)) (fun _ => ?_)
                  refine V_aln (pc := 135) dX9_lay_135 rfl rfl ?_
                  refine M_gr (pc := 136) hM 10 298 dX9_lay_136 (FL_X9_37 rfl) rfl rfl (by decide) ?_
                  refine V_iln (pc := 139) dX9_lay_139 rfl rfl ?_
                  refine V_aln (pc := 140) dX9_lay_140 rfl rfl ?_
                  refine M_gr (pc := 141) hM 5 293 dX9_lay_141 (FL_X9_22 rfl) rfl rfl (by decide) ?_
                  refine V_iln (pc := 144) dX9_lay_144 rfl rfl ?_
                  refine M_ia (pc := 145) hM 293 j dX9_lay_145 (by decide) (by decide) rfl (by show (_ : Nat) < 4; omega) ?_
                  refine M_ias (pc := 146) hM 298 i dX9_lay_146 (by decide) (by decide) rfl (by show (_ : Nat) < 5; omega) ?_
                  refine V_iconst (pc := 147) (v := 0) dX9_lay_147 (by decide) ?_
                  refine V_is (pc := 148) (fun y => [(0, .ref m), (1, .int (nI i)), (2, .int 2), (3, .int (nI j)), (4, .int y39), (5, .int y80), (6, .int y)]) dX9_lay_148 (by decide) (fun _ => rfl) (fun y148 ey148 => ?_)
                  obtain rfl : y148 = nI 0 := ey148
                  have q := m_lay_L (b := (0, 0)) (x := x) (d := d) (A0 := va_up (va_up (va_up (va_up A 295 (upd (A 295) i 2)) 296 (upd (A 296) i (nI j))) 297 (upd (A 297) i 0)) 298 (upd (A 298) i (A 293 j))) (tn := A 294) (r0 := A 299) (F := F) (th := 2) (g := y39) (was := y80) hM hi hj rfl (by rw [ey80]; exact h) 24 0 (by omega)
                  rw [lyr_0, vu_selfE (show va_up (va_up (va_up (va_up A 295 (upd (A 295) i 2)) 296 (upd (A 296) i (nI j))) 297 (upd (A 297) i 0)) 298 (upd (A 298) i (A 293 j)) 299 = A 299 from rfl)] at q
                  exact q
                · rw [if_pos ⟨rfl, Int32.not_le.mp h67⟩, uH_self] at h
                  refine V_ldcw (pc := 70) dX9_lay_70 (KC_X9_303 rfl) ?_
                  refine V_iret (pc := 73) dX9_lay_73 rfl rfl ?_
                  exact h
              · exact absurd (ey39.symm.trans h50) (by decide)
            · rw [if_neg (fun q => ni q.1), uH_self] at h
              refine V_eq (pc := 45) (t := 53) dX9_lay_45 (by decide) (fun _ => ?_) (fun h => absurd h (by decide))
              refine V_ldc (pc := 53) dX9_lay_53 (KC_X9_82 rfl) ?_
              refine V_iret (pc := 55) dX9_lay_55 rfl rfl ?_
              exact h
          · refine V_eq (pc := 31) (t := 38) dX9_lay_31 (by decide) (fun _ => ?_) (fun h => absurd h (by decide))
            refine V_iconst (pc := 38) (v := 0) dX9_lay_38 (by decide) ?_
            refine V_is (pc := 39) (fun y => [(0, .ref m), (1, .int s), (2, .int th), (3, .int k), (4, .int y)]) dX9_lay_39 (by decide) (fun _ => rfl) (fun y39 ey39 => ?_)
            refine V_iln (pc := 41) dX9_lay_41 rfl rfl ?_
            refine V_cSi0 (pc := 42) (jc_X9_311 dX9_lay_42 rfl) rfl rfl (Nat.le_of_ble_eq_true rfl) ?_
            refine m_isSlot (fun i hi ei ti ci => ?_) (fun ni => ?_)
            · subst ei
              refine V_eq (pc := 45) (t := 53) dX9_lay_45 (by decide) (fun h => absurd h (by decide)) (fun _ => ?_)
              refine V_il (pc := 48) dX9_lay_48 rfl ?_
              refine V_ne (pc := 50) (t := 56) dX9_lay_50 (by decide) (fun h50 => ?_) (fun h50 => ?_)
              · exact absurd ey39 h50
              · rw [if_neg (by rintro ⟨_, e | e | ⟨e, f⟩ | ⟨e, f⟩⟩ <;> first | exact h1 e | exact h6 e | exact h11 e | exact h24 e | exact absurd e (by decide) | omega), uH_self] at h
                refine V_ldc (pc := 53) dX9_lay_53 (KC_X9_82 rfl) ?_
                refine V_iret (pc := 55) dX9_lay_55 rfl rfl ?_
                exact h
            · rw [if_neg (fun q => ni q.1), uH_self] at h
              refine V_eq (pc := 45) (t := 53) dX9_lay_45 (by decide) (fun _ => ?_) (fun h => absurd h (by decide))
              refine V_ldc (pc := 53) dX9_lay_53 (KC_X9_82 rfl) ?_
              refine V_iret (pc := 55) dX9_lay_55 rfl rfl ?_
              exact h
      · refine V_aln (pc := 14) dX9_lay_14 rfl rfl ?_
        refine V_iln (pc := 15) dX9_lay_15 rfl rfl ?_
        refine V_cVi0 (pc := 16) (jc_X9_105 dX9_lay_16 rfl) rfl rfl (Nat.le_of_ble_eq_true rfl) (mF_k hM) ?_
        refine m_isWeight hM hI.1.1 (by omega) (fun j hj ej tj cj => ?_) (fun nj => ?_)
        · subst ej
          subst h11
          refine V_ne (pc := 19) (t := 34) dX9_lay_19 (by decide) (fun _ => ?_) (fun h => absurd h (by decide))
          refine V_iconst (pc := 34) (v := 1) dX9_lay_34 (by decide) ?_
          refine V_goto (pc := 35) (t := 39) dX9_lay_35 (by decide) ?_
          refine V_is (pc := 39) (fun y => [(0, .ref m), (1, .int s), (2, .int 1), (3, .int (nI j)), (4, .int y)]) dX9_lay_39 (by decide) (fun _ => rfl) (fun y39 ey39 => ?_)
          refine V_iln (pc := 41) dX9_lay_41 rfl rfl ?_
          refine V_cSi0 (pc := 42) (jc_X9_311 dX9_lay_42 rfl) rfl rfl (Nat.le_of_ble_eq_true rfl) ?_
          refine m_isSlot (fun i hi ei ti ci => ?_) (fun ni => ?_)
          · subst ei
            refine V_eq (pc := 45) (t := 53) dX9_lay_45 (by decide) (fun h => absurd h (by decide)) (fun _ => ?_)
            refine V_il (pc := 48) dX9_lay_48 rfl ?_
            refine V_ne (pc := 50) (t := 56) dX9_lay_50 (by decide) (fun h50 => ?_) (fun h50 => ?_)
            · rw [if_pos ⟨by omega, Or.inr (Or.inr (Or.inl ⟨rfl, by omega, by omega⟩))⟩, ci] at h
              rw [if_neg (fun q => absurd q.1 (by decide))] at h
              simp only [if_pos (show (1 : Int32) = 1 from rfl), if_neg (show ¬ (1 : Int32) = 2 by decide)] at h
              rw [cj] at h
              refine V_iln (pc := 56) dX9_lay_56 rfl rfl ?_
              refine V_iconst (pc := 57) (v := 2) dX9_lay_57 (by decide) ?_
              refine V_cne (pc := 58) (t := 74) dX9_lay_58 (by decide) (fun _ => ?_) (fun h => absurd h (by decide))
              refine V_aln (pc := 74) dX9_lay_74 rfl rfl ?_
              refine M_gr (pc := 75) hM 7 295 dX9_lay_75 (FL_X9_28 rfl) rfl rfl (by decide) ?_
              refine V_iln (pc := 78) dX9_lay_78 rfl rfl ?_
              refine M_ia (pc := 79) hM 295 i dX9_lay_79 (by decide) (by decide) rfl (by show (_ : Nat) < 5; omega) ?_
              refine V_is (pc := 80) (fun y => [(0, .ref m), (1, .int (nI i)), (2, .int 1), (3, .int (nI j)), (4, .int y39), (5, .int y)]) dX9_lay_80 (by decide) (fun _ => rfl) (fun y80 ey80 => ?_)
              refine V_aln (pc := 82) dX9_lay_82 rfl rfl ?_
              refine M_gr (pc := 83) hM 7 295 dX9_lay_83 (FL_X9_28 rfl) rfl rfl (by decide) ?_
              refine V_iln (pc := 86) dX9_lay_86 rfl rfl ?_
              refine V_iln (pc := 87) dX9_lay_87 rfl rfl ?_
              refine M_ias (pc := 88) hM 295 i dX9_lay_88 (by decide) (by decide) rfl (by show (_ : Nat) < 5; omega) ?_
              refine V_aln (pc := 89) dX9_lay_89 rfl rfl ?_
              refine M_gr (pc := 90) hM 8 296 dX9_lay_90 (FL_X9_31 rfl) rfl rfl (by decide) ?_
              refine V_iln (pc := 93) dX9_lay_93 rfl rfl ?_
              refine V_iln (pc := 94) dX9_lay_94 rfl rfl ?_
              refine V_iconst (pc := 95) (v := 1) dX9_lay_95 (by decide) ?_
              refine V_cne (pc := 96) (t := 108) dX9_lay_96 (by decide) (fun h => absurd h (by decide)) (fun _ => ?_)
              refine V_aln (pc := 99) dX9_lay_99 rfl rfl ?_
              refine V_iln (pc := 100) dX9_lay_100 rfl rfl ?_
              refine V_iconst (pc := 101) (v := 0) dX9_lay_101 (by decide) ?_
              refine V_cVi0 (pc := 102) (jc_X9_67 dX9_lay_102 rfl) rfl rfl (Nat.le_of_ble_eq_true rfl) (mF_k hM) ?_
              refine m_of hM (i := j) (j := 0) (by omega) ?_
              refine V_goto (pc := 105) (t := 109) dX9_lay_105 (by decide) ?_
              refine M_ias (pc := 109) hM 296 i dX9_lay_109 (by decide) (by decide) rfl (by show (_ : Nat) < 5; omega) ?_
              refine V_aln (pc := 110) dX9_lay_110 rfl rfl ?_
              refine M_gr (pc := 111) hM 9 297 dX9_lay_111 (FL_X9_34 rfl) rfl rfl (by decide) ?_
              refine V_iln (pc := 114) dX9_lay_114 rfl rfl ?_
              refine V_iln (pc := 115) dX9_lay_115 rfl rfl ?_
              refine V_iconst (pc := 116) (v := 1) dX9_lay_116 (by decide) ?_
              refine V_cne (pc := 117) (t := 128) dX9_lay_117 (by decide) (fun h => absurd h (by decide)) (fun _ => ?_)
              refine V_aln (pc := 120) dX9_lay_120 rfl rfl ?_
              refine V_iln (pc := 121) dX9_lay_121 rfl rfl ?_
              refine V_cVi0 (pc := 122) (jc_X9_112 dX9_lay_122 rfl) rfl rfl (Nat.le_of_ble_eq_true rfl) (mF_k hM) ?_
              refine m_worth hM (w := j) (by omega) ?_
              refine V_goto (pc := 125) (t := 129) dX9_lay_125 (by decide) ?_
              refine M_ias (pc := 129) hM 297 i dX9_lay_129 (by decide) (by decide) rfl (by show (_ : Nat) < 5; omega) ?_
              refine V_iln (pc := 130) dX9_lay_130 rfl rfl ?_
              refine V_iconst (pc := 131) (v := 2) dX9_lay_131 (by decide) ?_
              refine V_cne (pc := 132) (t := 187) dX9_lay_132 (by decide) (fun _ => ?_) (fun h => absurd h (by decide))
              refine V_il (pc := 187) dX9_lay_187 rfl ?_
              refine V_iret (pc := 189) dX9_lay_189 rfl rfl ?_
              rw [ey80]
              rw [uH_3] at h
              exact h
            · exact absurd (ey39.symm.trans h50) (by decide)
          · rw [if_neg (fun q => ni q.1), uH_self] at h
            refine V_eq (pc := 45) (t := 53) dX9_lay_45 (by decide) (fun _ => ?_) (fun h => absurd h (by decide))
            refine V_ldc (pc := 53) dX9_lay_53 (KC_X9_82 rfl) ?_
            refine V_iret (pc := 55) dX9_lay_55 rfl rfl ?_
            exact h
        · subst h11
          refine V_ne (pc := 19) (t := 34) dX9_lay_19 (by decide) (fun h => absurd h (by decide)) (fun _ => ?_)
          refine V_iln (pc := 22) dX9_lay_22 rfl rfl ?_
          refine V_iconst (pc := 23) (v := 2) dX9_lay_23 (by decide) ?_
          refine V_cne (pc := 24) (t := 38) dX9_lay_24 (by decide) (fun _ => ?_) (fun h => absurd h (by decide))
          refine V_iconst (pc := 38) (v := 0) dX9_lay_38 (by decide) ?_
          refine V_is (pc := 39) (fun y => [(0, .ref m), (1, .int s), (2, .int 1), (3, .int k), (4, .int y)]) dX9_lay_39 (by decide) (fun _ => rfl) (fun y39 ey39 => ?_)
          refine V_iln (pc := 41) dX9_lay_41 rfl rfl ?_
          refine V_cSi0 (pc := 42) (jc_X9_311 dX9_lay_42 rfl) rfl rfl (Nat.le_of_ble_eq_true rfl) ?_
          refine m_isSlot (fun i hi ei ti ci => ?_) (fun ni => ?_)
          · subst ei
            refine V_eq (pc := 45) (t := 53) dX9_lay_45 (by decide) (fun h => absurd h (by decide)) (fun _ => ?_)
            refine V_il (pc := 48) dX9_lay_48 rfl ?_
            refine V_ne (pc := 50) (t := 56) dX9_lay_50 (by decide) (fun h50 => ?_) (fun h50 => ?_)
            · exact absurd ey39 h50
            · rw [if_neg (by rintro ⟨_, e | e | ⟨e, f⟩ | ⟨e, f⟩⟩ <;> first | exact h1 e | exact h6 e | exact h11 e | exact h24 e | exact absurd e (by decide) | omega), uH_self] at h
              refine V_ldc (pc := 53) dX9_lay_53 (KC_X9_82 rfl) ?_
              refine V_iret (pc := 55) dX9_lay_55 rfl rfl ?_
              exact h
          · rw [if_neg (fun q => ni q.1), uH_self] at h
            refine V_eq (pc := 45) (t := 53) dX9_lay_45 (by decide) (fun _ => ?_) (fun h => absurd h (by decide))
            refine V_ldc (pc := 53) dX9_lay_53 (KC_X9_82 rfl) ?_
            refine V_iret (pc := 55) dX9_lay_55 rfl rfl ?_
            exact h
/-- a byte of a number fed; which number; the tape after k bytes -/
def fby (v : Int32) (k : Nat) : Int32 := (v >>> ((24 - 8 * (nI k - nI k / 4 * 4)) &&& 31)) &&& 255
def fdv (a b e : Int32) (k : Nat) : Int32 := if k < 4 then a else if k < 8 then b else e
def fdt (tp : Nat → Int32) (c : Nat) (a b e : Int32) : Nat → Nat → Int32
  | 0 => tp
  | k + 1 => upd (fdt tp c a b e k) (c + k) (fby (fdv a b e k) k)
def o_feed (tp : Nat → Int32) (c : Nat) (a b e : Int32) : Int32 × (Nat → Int32) × Nat := if c + 12 ≤ 96 then (nI (c + 12), fdt tp c a b e 12, c + 12) else (-1000000003, tp, c)
set_option maxRecDepth 100000 in
set_option maxHeartbeats 4000000 in
theorem m_feed_L {x : pX} {d : Nat} {S : pS} {m : Nat} {as : Nat → Nat} {b : Nat × Nat} {Q : Int32 → pS → Prop} (hM : MF S m as) {A0 : Nat → Nat → Int32} {F0 : Nat → Int32} {tp : Nat → Int32} {a bb e : Int32} {c0 : Nat} (hc : c0 + 12 ≤ 96) (h : Q (nI (c0 + 12)) (mP S m as (va_up A0 300 (fdt tp c0 a bb e 12)) (va_up F0 301 (nI (c0 + 12))))) : ∀ (c k : Nat), k + c = 12 → V x (d + 1) M_X9_feed (qi Q) b 18 [(0, .ref m), (1, .int a), (2, .int bb), (3, .int e), (4, .int (nI k))] [] (mP S m as (va_up A0 300 (fdt tp c0 a bb e k)) (va_up F0 301 (nI (c0 + k)))) := by
  intro c
  induction c with
  | zero =>
    intro k hk 
    refine V_il (pc := 18) dX9_feed_18 rfl ?_
    refine V_bipush (pc := 20) (v := 12) dX9_feed_20 (by decide) ?_
    refine V_cge (pc := 22) (t := 91) dX9_feed_22 (by decide) (fun h22 => ?_) (fun h22 => ?_)
    · refine V_aln (pc := 91) dX9_feed_91 rfl rfl ?_
      refine M_gi (pc := 92) hM 13 301 dX9_feed_92 (FL_X9_199 rfl) rfl rfl ?_
      refine V_iret (pc := 95) dX9_feed_95 rfl rfl ?_
      obtain rfl : k = 12 := by omega
      rw [va_up_self]
      exact h
    · exact absurd (nI_le (a := 12) (by omega) (by omega)) h22
  | succ c ih =>
    intro k hk 
    refine V_il (pc := 18) dX9_feed_18 rfl ?_
    refine V_bipush (pc := 20) (v := 12) dX9_feed_20 (by decide) ?_
    refine V_cge (pc := 22) (t := 91) dX9_feed_22 (by decide) (fun h22 => ?_) (fun h22 => ?_)
    · exact absurd h22 (nI_ge (b := 12) (by omega) (by decide))
    · refine V_il (pc := 25) dX9_feed_25 rfl ?_
      refine V_iconst (pc := 27) (v := 4) dX9_feed_27 (by decide) ?_
      refine V_cge (pc := 28) (t := 35) dX9_feed_28 (by decide) (fun h28 => ?_) (fun h28 => ?_)
      · have hk4 : ¬ k < 4 := fun q => nI_ge (b := 4) q (by decide) h28
        refine V_il (pc := 35) dX9_feed_35 rfl ?_
        refine V_bipush (pc := 37) (v := 8) dX9_feed_37 (by decide) ?_
        refine V_cge (pc := 39) (t := 46) dX9_feed_39 (by decide) (fun h39 => ?_) (fun h39 => ?_)
        · have hv : fdv a bb e k = e := by unfold fdv; rw [if_neg hk4, if_neg (fun q => nI_ge (b := 8) q (by decide) h39)]
          refine V_iln (pc := 46) dX9_feed_46 rfl rfl ?_
          refine V_is (pc := 47) (fun y => [(0, .ref m), (1, .int a), (2, .int bb), (3, .int e), (4, .int (nI k)), (5, .int y)]) dX9_feed_47 (by decide) (fun _ => rfl) (fun y47 ey47 => ?_)
          refine V_aln (pc := 49) dX9_feed_49 rfl rfl ?_
          refine M_gr (pc := 50) hM 12 300 dX9_feed_50 (FL_X9_43 rfl) rfl rfl (by decide) ?_
          refine V_aln (pc := 53) dX9_feed_53 rfl rfl ?_
          refine M_gi (pc := 54) hM 13 301 dX9_feed_54 (FL_X9_199 rfl) rfl rfl ?_
          refine V_il (pc := 57) dX9_feed_57 rfl ?_
          refine V_bipush (pc := 59) (v := 24) dX9_feed_59 (by decide) ?_
          refine V_bipush (pc := 61) (v := 8) dX9_feed_61 (by decide) ?_
          refine V_il (pc := 63) dX9_feed_63 rfl ?_
          refine V_iconst (pc := 65) (v := 4) dX9_feed_65 (by decide) ?_
          refine V_irem (pc := 66) dX9_feed_66 (by decide) ?_
          refine V_imul (pc := 67) dX9_feed_67 ?_
          refine V_isub (pc := 68) dX9_feed_68 ?_
          refine V_ishr (pc := 69) dX9_feed_69 ?_
          refine V_sipush (pc := 70) (v := 255) dX9_feed_70 (by decide) ?_
          refine V_iand (pc := 73) dX9_feed_73 ?_
          refine M_ias (pc := 74) hM 300 ((c0 + k)) dX9_feed_74 (by decide) (by decide) (va_up_self _ _ _) (by show (_ : Nat) < 96; omega) ?_
          refine V_aln (pc := 75) dX9_feed_75 rfl rfl ?_
          refine V_dup (pc := 76) dX9_feed_76 rfl ?_
          refine M_gi (pc := 77) hM 13 301 dX9_feed_77 (FL_X9_199 rfl) rfl rfl ?_
          refine V_iconst (pc := 80) (v := 1) dX9_feed_80 (by decide) ?_
          refine V_iadd (pc := 81) dX9_feed_81 ?_
          refine M_pi (pc := 82) hM 13 301 dX9_feed_82 (FL_X9_199 rfl) rfl rfl rfl ?_
          refine V_inc (pc := 85) (fun y => [(0, .ref m), (1, .int a), (2, .int bb), (3, .int e), (4, .int y), (5, .int y47)]) (w := 1) dX9_feed_85 (by decide) (by decide) rfl (fun _ => rfl) (fun y85 ey85 => ?_)
          obtain rfl : y85 = nI (k + 1) := by rw [ey85]; exact nI_1 _
          refine V_goto (pc := 88) (t := 18) dX9_feed_88 (by decide) ?_
          refine V_lp [0, 1, 2, 3, 4] (ls' := [(0, .ref m), (1, .int a), (2, .int bb), (3, .int e), (4, .int (nI (k + 1)))]) rfl ?_
          have e1 : upd (fdt tp c0 a bb e k) (c0 + k) (y47 >>> ((24 - 8 * (nI k - nI k / 4 * 4)) &&& 31) &&& 255) = fdt tp c0 a bb e (k + 1) := by rw [ey47.trans hv.symm]; rfl
          have e2 : nI (c0 + k) + 1 = nI (c0 + (k + 1)) := nI_1 _
          rw [va_up_self, va_up_self, vu_vu, vu_vu, e1, e2]
          exact ih (k + 1) (by omega)
        · have hv : fdv a bb e k = bb := by unfold fdv; rw [if_neg hk4, if_pos (Nat.lt_of_not_le (fun q => h39 (nI_le (a := 8) q (by omega))))]
          refine V_iln (pc := 42) dX9_feed_42 rfl rfl ?_
          refine V_goto (pc := 43) (t := 47) dX9_feed_43 (by decide) ?_
          refine V_is (pc := 47) (fun y => [(0, .ref m), (1, .int a), (2, .int bb), (3, .int e), (4, .int (nI k)), (5, .int y)]) dX9_feed_47 (by decide) (fun _ => rfl) (fun y47 ey47 => ?_)
          refine V_aln (pc := 49) dX9_feed_49 rfl rfl ?_
          refine M_gr (pc := 50) hM 12 300 dX9_feed_50 (FL_X9_43 rfl) rfl rfl (by decide) ?_
          refine V_aln (pc := 53) dX9_feed_53 rfl rfl ?_
          refine M_gi (pc := 54) hM 13 301 dX9_feed_54 (FL_X9_199 rfl) rfl rfl ?_
          refine V_il (pc := 57) dX9_feed_57 rfl ?_
          refine V_bipush (pc := 59) (v := 24) dX9_feed_59 (by decide) ?_
          refine V_bipush (pc := 61) (v := 8) dX9_feed_61 (by decide) ?_
          refine V_il (pc := 63) dX9_feed_63 rfl ?_
          refine V_iconst (pc := 65) (v := 4) dX9_feed_65 (by decide) ?_
          refine V_irem (pc := 66) dX9_feed_66 (by decide) ?_
          refine V_imul (pc := 67) dX9_feed_67 ?_
          refine V_isub (pc := 68) dX9_feed_68 ?_
          refine V_ishr (pc := 69) dX9_feed_69 ?_
          refine V_sipush (pc := 70) (v := 255) dX9_feed_70 (by decide) ?_
          refine V_iand (pc := 73) dX9_feed_73 ?_
          refine M_ias (pc := 74) hM 300 ((c0 + k)) dX9_feed_74 (by decide) (by decide) (va_up_self _ _ _) (by show (_ : Nat) < 96; omega) ?_
          refine V_aln (pc := 75) dX9_feed_75 rfl rfl ?_
          refine V_dup (pc := 76) dX9_feed_76 rfl ?_
          refine M_gi (pc := 77) hM 13 301 dX9_feed_77 (FL_X9_199 rfl) rfl rfl ?_
          refine V_iconst (pc := 80) (v := 1) dX9_feed_80 (by decide) ?_
          refine V_iadd (pc := 81) dX9_feed_81 ?_
          refine M_pi (pc := 82) hM 13 301 dX9_feed_82 (FL_X9_199 rfl) rfl rfl rfl ?_
          refine V_inc (pc := 85) (fun y => [(0, .ref m), (1, .int a), (2, .int bb), (3, .int e), (4, .int y), (5, .int y47)]) (w := 1) dX9_feed_85 (by decide) (by decide) rfl (fun _ => rfl) (fun y85 ey85 => ?_)
          obtain rfl : y85 = nI (k + 1) := by rw [ey85]; exact nI_1 _
          refine V_goto (pc := 88) (t := 18) dX9_feed_88 (by decide) ?_
          refine V_lp [0, 1, 2, 3, 4] (ls' := [(0, .ref m), (1, .int a), (2, .int bb), (3, .int e), (4, .int (nI (k + 1)))]) rfl ?_
          have e1 : upd (fdt tp c0 a bb e k) (c0 + k) (y47 >>> ((24 - 8 * (nI k - nI k / 4 * 4)) &&& 31) &&& 255) = fdt tp c0 a bb e (k + 1) := by rw [ey47.trans hv.symm]; rfl
          have e2 : nI (c0 + k) + 1 = nI (c0 + (k + 1)) := nI_1 _
          rw [va_up_self, va_up_self, vu_vu, vu_vu, e1, e2]
          exact ih (k + 1) (by omega)
      · have hv : fdv a bb e k = a := by unfold fdv; rw [if_pos (Nat.lt_of_not_le (fun q => h28 (nI_le (a := 4) q (by omega))))]
        refine V_iln (pc := 31) dX9_feed_31 rfl rfl ?_
        refine V_goto (pc := 32) (t := 47) dX9_feed_32 (by decide) ?_
        refine V_is (pc := 47) (fun y => [(0, .ref m), (1, .int a), (2, .int bb), (3, .int e), (4, .int (nI k)), (5, .int y)]) dX9_feed_47 (by decide) (fun _ => rfl) (fun y47 ey47 => ?_)
        refine V_aln (pc := 49) dX9_feed_49 rfl rfl ?_
        refine M_gr (pc := 50) hM 12 300 dX9_feed_50 (FL_X9_43 rfl) rfl rfl (by decide) ?_
        refine V_aln (pc := 53) dX9_feed_53 rfl rfl ?_
        refine M_gi (pc := 54) hM 13 301 dX9_feed_54 (FL_X9_199 rfl) rfl rfl ?_
        refine V_il (pc := 57) dX9_feed_57 rfl ?_
        refine V_bipush (pc := 59) (v := 24) dX9_feed_59 (by decide) ?_
        refine V_bipush (pc := 61) (v := 8) dX9_feed_61 (by decide) ?_
        refine V_il (pc := 63) dX9_feed_63 rfl ?_
        refine V_iconst (pc := 65) (v := 4) dX9_feed_65 (by decide) ?_
        refine V_irem (pc := 66) dX9_feed_66 (by decide) ?_
        refine V_imul (pc := 67) dX9_feed_67 ?_
        refine V_isub (pc := 68) dX9_feed_68 ?_
        refine V_ishr (pc := 69) dX9_feed_69 ?_
        refine V_sipush (pc := 70) (v := 255) dX9_feed_70 (by decide) ?_
        refine V_iand (pc := 73) dX9_feed_73 ?_
        refine M_ias (pc := 74) hM 300 ((c0 + k)) dX9_feed_74 (by decide) (by decide) (va_up_self _ _ _) (by show (_ : Nat) < 96; omega) ?_
        refine V_aln (pc := 75) dX9_feed_75 rfl rfl ?_
        refine V_dup (pc := 76) dX9_feed_76 rfl ?_
        refine M_gi (pc := 77) hM 13 301 dX9_feed_77 (FL_X9_199 rfl) rfl rfl ?_
        refine V_iconst (pc := 80) (v := 1) dX9_feed_80 (by decide) ?_
        refine V_iadd (pc := 81) dX9_feed_81 ?_
        refine M_pi (pc := 82) hM 13 301 dX9_feed_82 (FL_X9_199 rfl) rfl rfl rfl ?_
        refine V_inc (pc := 85) (fun y => [(0, .ref m), (1, .int a), (2, .int bb), (3, .int e), (4, .int y), (5, .int y47)]) (w := 1) dX9_feed_85 (by decide) (by decide) rfl (fun _ => rfl) (fun y85 ey85 => ?_)
        obtain rfl : y85 = nI (k + 1) := by rw [ey85]; exact nI_1 _
        refine V_goto (pc := 88) (t := 18) dX9_feed_88 (by decide) ?_
        refine V_lp [0, 1, 2, 3, 4] (ls' := [(0, .ref m), (1, .int a), (2, .int bb), (3, .int e), (4, .int (nI (k + 1)))]) rfl ?_
        have e1 : upd (fdt tp c0 a bb e k) (c0 + k) (y47 >>> ((24 - 8 * (nI k - nI k / 4 * 4)) &&& 31) &&& 255) = fdt tp c0 a bb e (k + 1) := by rw [ey47.trans hv.symm]; rfl
        have e2 : nI (c0 + k) + 1 = nI (c0 + (k + 1)) := nI_1 _
        rw [va_up_self, va_up_self, vu_vu, vu_vu, e1, e2]
        exact ih (k + 1) (by omega)
set_option maxRecDepth 100000 in
set_option maxHeartbeats 4000000 in
theorem M_feed {x : pX} {d : Nat} {S : pS} {m : Nat} {as : Nat → Nat} {A : Nat → Nat → Int32} {F : Nat → Int32} {Q : Int32 → pS → Prop} (hM : MF S m as) {c : Nat} {a bb e : Int32} (hc : F 301 = nI c) (hc96 : c ≤ 96) (h : Q (o_feed (A 300) c a bb e).1 (mP S m as (va_up A 300 (o_feed (A 300) c a bb e).2.1) (va_up F 301 (nI (o_feed (A 300) c a bb e).2.2)))) : PI x (d + 1) M_X9_feed [.ref m, .int a, .int bb, .int e] (mP S m as A F) Q := by
  unfold o_feed at h
  refine PM_of (by decide +kernel) (Nat.le_of_ble_eq_true rfl) ?_
  show V x (d + 1) M_X9_feed (qi Q) (0, 0) 0 [(0, .ref m), (1, .int a), (2, .int bb), (3, .int e)] [] (mP S m as A F)
  refine V_aln (pc := 0) dX9_feed_0 rfl rfl ?_
  refine M_gi (pc := 1) hM 13 301 dX9_feed_1 (FL_X9_199 rfl) rfl rfl ?_
  refine V_bipush (pc := 4) (v := 12) dX9_feed_4 (by decide) ?_
  refine V_iadd (pc := 6) dX9_feed_6 ?_
  refine V_bipush (pc := 7) (v := 96) dX9_feed_7 (by decide) ?_
  rw [hc, show (12 : Int32) = nI 12 from rfl, nI_add]
  refine V_cle (pc := 9) (t := 15) dX9_feed_9 (by decide) (fun h9 => ?_) (fun h9 => ?_)
  · rw [if_pos (Nat.le_of_not_lt (fun q => absurd h9 (nI_ge (a := 96) q (by omega))))] at h
    refine V_iconst (pc := 15) (v := 0) dX9_feed_15 (by decide) ?_
    refine V_is (pc := 16) (fun y => [(0, .ref m), (1, .int a), (2, .int bb), (3, .int e), (4, .int y)]) dX9_feed_16 (by decide) (fun _ => rfl) (fun y16 ey16 => ?_)
    obtain rfl : y16 = nI 0 := ey16
    have q := m_feed_L (b := (0, 0)) (x := x) (d := d) (A0 := A) (F0 := F) (tp := A 300) (c0 := c) (a := a) (bb := bb) (e := e) hM (Nat.le_of_not_lt (fun q => absurd h9 (nI_ge (a := 96) q (by omega)))) h 12 0 (by omega)
    rw [show fdt (A 300) c a bb e 0 = A 300 from rfl, vu_self, show c + 0 = c from rfl, ← hc, vu_self] at q
    exact q
  · rw [if_neg (fun q => h9 (nI_le (b := 96) q (by decide)))] at h
    dsimp only at h
    rw [vu_self, ← hc, vu_self] at h
    refine V_ldc (pc := 12) dX9_feed_12 (KC_X9_83 rfl) ?_
    refine V_iret (pc := 14) dX9_feed_14 rfl rfl ?_
    exact h
/-- how many of so many days pass; what each tells -/
noncomputable def ndy (σ : Nat → Int32) (n nt : Nat) : Nat → Nat
  | 0 => 0
  | k + 1 => if (fds σ n nt k).1 3 < 9999 then ndy σ n nt k + 1 else ndy σ n nt k
theorem ndy_end (σ : Nat → Int32) (n nt k : Nat) (h : ¬ (fds σ n nt k).1 3 < 9999) : ∀ c, ndy σ n nt (k + c) = ndy σ n nt k
  | 0 => rfl
  | c + 1 => by
    show (if (fds σ n nt (k + c)).1 3 < 9999 then _ else _) = _
    rw [fds_end σ n nt k h c, if_neg h]
    exact ndy_end σ n nt k h c
theorem ndy_le (σ : Nat → Int32) (n nt : Nat) : ∀ k, ndy σ n nt k ≤ k
  | 0 => Nat.le_refl _
  | k + 1 => by have := ndy_le σ n nt k; unfold ndy; split <;> omega
noncomputable def dA (σ : Nat → Int32) (n nt : Nat) (j : Nat) : Int32 := if j % 2 = 0 then fsum (fds σ n nt (j / 2 + 1)).1 (allS n) 2 n else (fds σ n nt (j / 2 + 1)).1 2
theorem dA_0 (σ : Nat → Int32) (n nt k : Nat) : dA σ n nt (2 * k) = fsum (fds σ n nt (k + 1)).1 (allS n) 2 n := by
  unfold dA; rw [if_pos (by omega), show 2 * k / 2 = k by omega]
theorem dA_1 (σ : Nat → Int32) (n nt k : Nat) : dA σ n nt (2 * k + 1) = (fds σ n nt (k + 1)).1 2 := by
  unfold dA; rw [if_neg (by omega), show (2 * k + 1) / 2 = k by omega]
/-- how many of those that waited are right -/
def fmt (w r : Nat → Int32) (M D : Nat) : Nat → Nat → Nat
  | 0, k => k
  | c + 1, k => if k < M ∧ k < D ∧ w k = r k then fmt w r M D c (k + 1) else k
def fmr (M D k : Nat) : Int32 := if k = M ∧ k = D then 0 else nI (1 + k)
noncomputable def o_check (w τ : Nat → Int32) (c n nt : Nat) (hi v : Int32) : Int32 := if 1 ≤ v.toInt ∧ v.toInt ≤ 30 then (if hi = 0 then -1000000002 else fmr c (2 * ndy τ n nt v.toNatClampNeg) (fmt w (dA τ n nt) c (2 * ndy τ n nt v.toNatClampNeg) c 0)) else -1000000001
set_option maxRecDepth 100000 in
set_option maxHeartbeats 4000000 in
theorem m_check_L2 {x : pX} {d : Nat} {S : pS} {m : Nat} {as : Nat → Nat} {A : Nat → Nat → Int32} {F : Nat → Int32} {b : Nat × Nat} {Q : Int32 → pS → Prop} (hM : MF S m as) {w r : Nat → Int32} {M D q : Nat} (hw : A 315 = w) (hr0 : ∀ j, j < D → A 317 j = r j) (hM60 : M ≤ 60) (hD60 : D ≤ 60) (h : Q (fmr M D q) (mP S m as A F)) : ∀ (c k : Nat), k + c = M → fmt w r M D c k = q → V x (d + 8) M_X9_check (qi Q) b 137 [(0, .ref m), (2, .int (nI M)), (3, .int (nI D)), (4, .int (nI k))] [] (mP S m as A F) := by
  intro c
  induction c with
  | zero =>
    intro k hk hr
    refine V_il (pc := 137) dX9_check_137 rfl ?_
    refine V_iln (pc := 139) dX9_check_139 rfl rfl ?_
    refine V_cge (pc := 140) (t := 172) dX9_check_140 (by decide) (fun h140 => ?_) (fun h140 => ?_)
    · refine V_il (pc := 172) dX9_check_172 rfl ?_
      refine V_iln (pc := 174) dX9_check_174 rfl rfl ?_
      refine V_cne (pc := 175) (t := 188) dX9_check_175 (by decide) (fun h175 => ?_) (fun h175 => ?_)
      · exact absurd (show nI k = nI M by rw [show k = M by omega]) h175
      · refine V_il (pc := 178) dX9_check_178 rfl ?_
        refine V_iln (pc := 180) dX9_check_180 rfl rfl ?_
        refine V_cne (pc := 181) (t := 188) dX9_check_181 (by decide) (fun h181 => ?_) (fun h181 => ?_)
        · obtain rfl : k = q := hr
          unfold fmr at h
          rw [if_neg (fun e => h181 (by rw [e.2]))] at h
          refine V_iconst (pc := 188) (v := 1) dX9_check_188 (by decide) ?_
          refine V_il (pc := 189) dX9_check_189 rfl ?_
          refine V_iadd (pc := 191) dX9_check_191 ?_
          refine V_iret (pc := 192) dX9_check_192 rfl rfl ?_
          first | exact h | (rw [show (1 : Int32) = nI 1 from rfl, nI_add]; exact h)
        · obtain rfl : k = q := hr
          unfold fmr at h
          rw [if_pos ⟨by omega, (nI_eq (by omega) (by omega)).mp h181⟩] at h
          refine V_iconst (pc := 184) (v := 0) dX9_check_184 (by decide) ?_
          refine V_goto (pc := 185) (t := 192) dX9_check_185 (by decide) ?_
          refine V_iret (pc := 192) dX9_check_192 rfl rfl ?_
          first | exact h | (rw [show (1 : Int32) = nI 1 from rfl, nI_add]; exact h)
    · exact absurd (nI_le (by omega) (by omega)) h140
  | succ c ih =>
    intro k hk hr
    refine V_il (pc := 137) dX9_check_137 rfl ?_
    refine V_iln (pc := 139) dX9_check_139 rfl rfl ?_
    refine V_cge (pc := 140) (t := 172) dX9_check_140 (by decide) (fun h140 => ?_) (fun h140 => ?_)
    · exact absurd h140 (nI_ge (by omega) (by omega))
    · refine V_il (pc := 143) dX9_check_143 rfl ?_
      refine V_iln (pc := 145) dX9_check_145 rfl rfl ?_
      refine V_cge (pc := 146) (t := 172) dX9_check_146 (by decide) (fun h146 => ?_) (fun h146 => ?_)
      · have hkD : ¬ k < D := fun e => nI_ge e (by omega) h146
        obtain rfl : k = q := by rw [← hr]; show k = (if _ then _ else _); rw [if_neg (fun e => hkD e.2.1)]
        refine V_il (pc := 172) dX9_check_172 rfl ?_
        refine V_iln (pc := 174) dX9_check_174 rfl rfl ?_
        refine V_cne (pc := 175) (t := 188) dX9_check_175 (by decide) (fun h175 => ?_) (fun h175 => ?_)
        · refine V_iconst (pc := 188) (v := 1) dX9_check_188 (by decide) ?_
          refine V_il (pc := 189) dX9_check_189 rfl ?_
          refine V_iadd (pc := 191) dX9_check_191 ?_
          refine V_iret (pc := 192) dX9_check_192 rfl rfl ?_
          unfold fmr at h
          rw [if_neg (by omega)] at h
          rw [show (1 : Int32) = nI 1 from rfl, nI_add]; exact h
        · exact absurd ((nI_eq (by omega) (by omega)).mp h175) (by omega)
      · have hkD : k < D := Nat.lt_of_not_le (fun e => h146 (nI_le e (by omega)))
        refine V_aln (pc := 149) dX9_check_149 rfl rfl ?_
        refine M_gr (pc := 150) hM 27 315 dX9_check_150 (FL_X9_55 rfl) rfl rfl (by decide) ?_
        refine V_il (pc := 153) dX9_check_153 rfl ?_
        refine M_ia (pc := 155) hM 315 k dX9_check_155 (by decide) (by decide) rfl (by show (_ : Nat) < 60; omega) ?_
        refine V_aln (pc := 156) dX9_check_156 rfl rfl ?_
        refine M_gr (pc := 157) hM 29 317 dX9_check_157 (FL_X9_58 rfl) rfl rfl (by decide) ?_
        refine V_il (pc := 160) dX9_check_160 rfl ?_
        refine M_ia (pc := 162) hM 317 k dX9_check_162 (by decide) (by decide) rfl (by show (_ : Nat) < 60; omega) ?_
        refine V_cne (pc := 163) (t := 172) dX9_check_163 (by decide) (fun h163 => ?_) (fun h163 => ?_)
        · obtain rfl : k = q := by rw [← hr]; show k = (if _ then _ else _); rw [if_neg (fun e => h163 (by rw [hw, hr0 k hkD]; exact e.2.2))]
          refine V_il (pc := 172) dX9_check_172 rfl ?_
          refine V_iln (pc := 174) dX9_check_174 rfl rfl ?_
          refine V_cne (pc := 175) (t := 188) dX9_check_175 (by decide) (fun h175 => ?_) (fun h175 => ?_)
          · refine V_iconst (pc := 188) (v := 1) dX9_check_188 (by decide) ?_
            refine V_il (pc := 189) dX9_check_189 rfl ?_
            refine V_iadd (pc := 191) dX9_check_191 ?_
            refine V_iret (pc := 192) dX9_check_192 rfl rfl ?_
            unfold fmr at h
            rw [if_neg (by omega)] at h
            rw [show (1 : Int32) = nI 1 from rfl, nI_add]; exact h
          · exact absurd ((nI_eq (by omega) (by omega)).mp h175) (by omega)
        · have hr2 : fmt w r M D c (k + 1) = q := by rw [← hr]; show _ = (if _ then _ else _); rw [if_pos ⟨by omega, hkD, by rw [← hw, ← hr0 k hkD]; exact h163⟩]
          refine V_inc (pc := 166) (fun y => [(0, .ref m), (2, .int (nI M)), (3, .int (nI D)), (4, .int y)]) (w := 1) dX9_check_166 (by decide) (by decide) rfl (fun _ => rfl) (fun y166 ey166 => ?_)
          obtain rfl : y166 = nI (k + 1) := by rw [ey166]; exact nI_1 _
          refine V_goto (pc := 169) (t := 137) dX9_check_169 (by decide) ?_
          exact ih (k + 1) (by omega) hr2
theorem sk_back {σ τ a0 : Nat → Int32} {n nt : Nat} (hn : n ≤ 10) (ht : ∀ j, 2954 ≤ j → τ j = σ j) (k : Nat) : lyd (lyd σ a0 2954) (fds τ n nt k).1 2954 = σ := by
  funext j
  unfold lyd
  by_cases hj : j < 2954
  · rw [if_pos hj, if_pos hj]
  · rw [if_neg hj, fds_mk τ hn k j (Or.inr (Or.inr (Or.inr (by omega)))), ht j (by omega)]
theorem lyd2 (f g : Nat → Int32) (k : Nat) : upd (upd (lyd f g (2 * k)) (2 * k) (f (2 * k))) (2 * k + 1) (f (2 * k + 1)) = lyd f g (2 * (k + 1)) := by
  rw [lyd_s, lyd_s]; rfl
set_option maxRecDepth 100000 in
set_option maxHeartbeats 4000000 in
theorem m_check_L1 {x : pX} {d : Nat} {S : pS} {m : Nat} {as : Nat → Nat} {F : Nat → Int32} {b : Nat × Nat} {Q : Int32 → pS → Prop} (hM : MF S m as) {A0 : Nat → Nat → Int32} {σ τ a0 r0 w : Nat → Int32} {n nt np N M : Nat} (hN : N ≤ 30) (hM60 : M ≤ 60) (hI : MI τ n nt np) (ht : ∀ j, 2954 ≤ j → τ j = σ j) (ha : A0 290 = lyd σ a0 2954) (hw : A0 315 = w) (h : ∀ A2, (∀ f, f ≠ 288 → f ≠ 312 → f ≠ 313 → f ≠ 317 → A2 f = A0 f) → A2 288 = σ → Q (fmr M (2 * ndy τ n nt N) (fmt w (dA τ n nt) M (2 * ndy τ n nt N) M 0)) (mP S m as A2 F)) : ∀ (c k : Nat), k + c = N → ∀ (A : Nat → Nat → Int32), (A 288 = (fds τ n nt k).1 ∧ A 317 = lyd (dA τ n nt) r0 (2 * k) ∧ (∀ f, f ≠ 288 → f ≠ 312 → f ≠ 313 → f ≠ 317 → A f = A0 f) ∧ ndy τ n nt k = k) → V x (d + 8) M_X9_check (qi Q) b 64 [(0, .ref m), (1, .int (nI N)), (2, .int (nI M)), (3, .int (nI (2 * k))), (4, .int (nI k))] [] (mP S m as A F) := by
  intro c
  induction c with
  | zero =>
    intro k hk A hA
    have hn10 := hI.1.2
    have hIA : MI (A 288) n nt np := by rw [hA.1]; exact hI.same (fds_mk τ hn10 k)
    refine V_il (pc := 64) dX9_check_64 rfl ?_
    refine V_iln (pc := 66) dX9_check_66 rfl rfl ?_
    refine V_cge (pc := 67) (t := 122) dX9_check_67 (by decide) (fun h67 => ?_) (fun h67 => ?_)
    · refine V_aln (pc := 122) dX9_check_122 rfl rfl ?_
      refine V_aln (pc := 123) dX9_check_123 rfl rfl ?_
      refine M_gr (pc := 124) hM 2 290 dX9_check_124 (FL_X9_16 rfl) rfl rfl (by decide) ?_
      refine V_aln (pc := 127) dX9_check_127 rfl rfl ?_
      refine M_gr (pc := 128) hM 0 288 dX9_check_128 (FL_X9_7 rfl) rfl rfl (by decide) ?_
      refine V_cVv0 (pc := 131) (jc_X9_323 dX9_check_131 rfl) rfl rfl (Nat.le_of_ble_eq_true rfl) (mF_k hM) ?_
      refine m_setAside hM (p := 290) (q := 288) (by decide) (by decide) rfl rfl (by decide) ?_
      refine V_iconst (pc := 134) (v := 0) dX9_check_134 (by decide) ?_
      refine V_is (pc := 135) (fun y => [(0, .ref m), (1, .int (nI N)), (2, .int (nI M)), (3, .int (nI (2 * k))), (4, .int y)]) dX9_check_135 (by decide) (fun _ => rfl) (fun y135 ey135 => ?_)
      obtain rfl : y135 = nI 0 := ey135
      refine V_lp [0, 2, 3, 4] (ls' := [(0, .ref m), (2, .int (nI M)), (3, .int (nI (2 * k))), (4, .int (nI 0))]) rfl ?_
      obtain rfl : k = N := by omega
      have hnd := hA.2.2.2
      have e2 : 2 * ndy τ n nt k = 2 * k := by rw [hnd]
      rw [e2] at h
      rw [hA.2.2.1 290 (by decide) (by decide) (by decide) (by decide), ha, hA.1, sk_back hn10 ht]
      refine m_check_L2 (D := 2 * k) (w := w) (r := dA τ n nt) hM (by rw [va_up_ne _ _ (by decide)]; exact (hA.2.2.1 315 (by decide) (by decide) (by decide) (by decide)).trans hw) (fun j hj => ?_) hM60 (by omega) (h _ (fun f h1 h2 h3 h4 => by rw [va_up_ne _ _ h1]; exact hA.2.2.1 f h1 h2 h3 h4) (va_up_self _ _ _)) M 0 (by omega) rfl
      rw [va_up_ne _ _ (by decide), hA.2.1]; unfold lyd; rw [if_pos (by omega)]
    · exact absurd (nI_le (by omega) (by omega)) h67
  | succ c ih =>
    intro k hk A hA
    have hn10 := hI.1.2
    have hIA : MI (A 288) n nt np := by rw [hA.1]; exact hI.same (fds_mk τ hn10 k)
    refine V_il (pc := 64) dX9_check_64 rfl ?_
    refine V_iln (pc := 66) dX9_check_66 rfl rfl ?_
    refine V_cge (pc := 67) (t := 122) dX9_check_67 (by decide) (fun h67 => ?_) (fun h67 => ?_)
    · exact absurd h67 (nI_ge (by omega) (by omega))
    · refine V_aln (pc := 70) dX9_check_70 rfl rfl ?_
      refine M_gr (pc := 71) hM 0 288 dX9_check_71 (FL_X9_7 rfl) rfl rfl (by decide) ?_
      refine V_iconst (pc := 74) (v := 3) dX9_check_74 (by decide) ?_
      refine M_ia (pc := 75) hM 288 3 dX9_check_75 (by decide) (by decide) (by simp only [fa_lit, nI_add, pk_mul]) (by show (_ : Nat) < 3154; omega) ?_
      refine V_sipush (pc := 76) (v := 9999) dX9_check_76 (by decide) ?_
      refine V_cge (pc := 79) (t := 122) dX9_check_79 (by decide) (fun h79 => ?_) (fun h79 => ?_)
      · have h9 : ¬ (fds τ n nt k).1 3 < 9999 := by rw [← hA.1]; exact Int32.not_lt.mpr h79
        have hE := ndy_end τ n nt k h9 (c + 1)
        rw [hk, hA.2.2.2] at hE
        rw [hE] at h
        refine V_aln (pc := 122) dX9_check_122 rfl rfl ?_
        refine V_aln (pc := 123) dX9_check_123 rfl rfl ?_
        refine M_gr (pc := 124) hM 2 290 dX9_check_124 (FL_X9_16 rfl) rfl rfl (by decide) ?_
        refine V_aln (pc := 127) dX9_check_127 rfl rfl ?_
        refine M_gr (pc := 128) hM 0 288 dX9_check_128 (FL_X9_7 rfl) rfl rfl (by decide) ?_
        refine V_cVv0 (pc := 131) (jc_X9_323 dX9_check_131 rfl) rfl rfl (Nat.le_of_ble_eq_true rfl) (mF_k hM) ?_
        refine m_setAside hM (p := 290) (q := 288) (by decide) (by decide) rfl rfl (by decide) ?_
        refine V_iconst (pc := 134) (v := 0) dX9_check_134 (by decide) ?_
        refine V_is (pc := 135) (fun y => [(0, .ref m), (1, .int (nI N)), (2, .int (nI M)), (3, .int (nI (2 * k))), (4, .int y)]) dX9_check_135 (by decide) (fun _ => rfl) (fun y135 ey135 => ?_)
        obtain rfl : y135 = nI 0 := ey135
        refine V_lp [0, 2, 3, 4] (ls' := [(0, .ref m), (2, .int (nI M)), (3, .int (nI (2 * k))), (4, .int (nI 0))]) rfl ?_
        rw [hA.2.2.1 290 (by decide) (by decide) (by decide) (by decide), ha, hA.1, sk_back hn10 ht]
        refine m_check_L2 (D := 2 * k) (w := w) (r := dA τ n nt) hM (by rw [va_up_ne _ _ (by decide)]; exact (hA.2.2.1 315 (by decide) (by decide) (by decide) (by decide)).trans hw) (fun j hj => ?_) hM60 (by omega) (h _ (fun f h1 h2 h3 h4 => by rw [va_up_ne _ _ h1]; exact hA.2.2.1 f h1 h2 h3 h4) (va_up_self _ _ _)) M 0 (by omega) rfl
        rw [va_up_ne _ _ (by decide), hA.2.1]; unfold lyd; rw [if_pos (by omega)]
      · have h9 : (fds τ n nt k).1 3 < 9999 := by rw [← hA.1]; exact Int32.not_le.mp h79
        have hD1 : (fds τ n nt (k + 1)).1 = fday (A 288) n nt := by show (if _ then _ else _ : (Nat → Int32) × Nat).1 = _; rw [if_pos h9, hA.1]
        have hn1 : ndy τ n nt (k + 1) = k + 1 := by show (if _ then _ else _) = _; rw [if_pos h9, hA.2.2.2]
        refine V_aln (pc := 82) dX9_check_82 rfl rfl ?_
        refine V_cVi0 (pc := 83) (jc_X9_169 dX9_check_83 rfl) rfl rfl (Nat.le_of_ble_eq_true rfl) (mF_k hM) ?_
        refine m_day hM hIA (fun A2 hs => ?_)
        have e28 : A2 288 = (fds τ n nt (k + 1)).1 := by rw [hs 288 (by decide) (by decide), uA_at, hD1]
        have hI2 : MI (A2 288) n nt np := by rw [e28]; exact hI.same (fds_mk τ hn10 (k + 1))
        have e27 : A2 317 = lyd (dA τ n nt) r0 (2 * k) := by rw [hs 317 (by decide) (by decide), uA_ne _ _ (by decide)]; exact hA.2.1
        refine V_is (pc := 86) (fun y => [(0, .ref m), (1, .int (nI N)), (2, .int (nI M)), (3, .int (nI (2 * k))), (4, .int (nI k)), (5, .int y)]) dX9_check_86 (by decide) (fun _ => rfl) (fun y86 ey86 => ?_)
        subst ey86
        refine V_aln (pc := 88) dX9_check_88 rfl rfl ?_
        refine M_gr (pc := 89) hM 29 317 dX9_check_89 (FL_X9_58 rfl) rfl rfl (by decide) ?_
        refine V_iln (pc := 92) dX9_check_92 rfl rfl ?_
        refine V_aln (pc := 93) dX9_check_93 rfl rfl ?_
        refine V_iconst (pc := 94) (v := 2) dX9_check_94 (by decide) ?_
        refine V_cVi0 (pc := 95) (jc_X9_193 dX9_check_95 rfl) rfl rfl (Nat.le_of_ble_eq_true rfl) (mF_k hM) ?_
        refine m_allOf hM hI2.1.1 hn10 (j := 2) (by decide) ?_
        refine M_ias (pc := 98) hM 317 ((2 * k)) dX9_check_98 (by decide) (by decide) rfl (by show (_ : Nat) < 60; omega) ?_
        refine V_aln (pc := 99) dX9_check_99 rfl rfl ?_
        refine M_gr (pc := 100) hM 29 317 dX9_check_100 (FL_X9_58 rfl) rfl rfl (by decide) ?_
        refine V_iln (pc := 103) dX9_check_103 rfl rfl ?_
        refine V_iconst (pc := 104) (v := 1) dX9_check_104 (by decide) ?_
        refine V_iadd (pc := 105) dX9_check_105 ?_
        refine V_aln (pc := 106) dX9_check_106 rfl rfl ?_
        refine M_gr (pc := 107) hM 0 288 dX9_check_107 (FL_X9_7 rfl) rfl rfl (by decide) ?_
        refine V_iconst (pc := 110) (v := 2) dX9_check_110 (by decide) ?_
        refine M_ia (pc := 111) hM 288 2 dX9_check_111 (by decide) (by decide) (by simp only [fa_lit, nI_add, pk_mul]) (by show (_ : Nat) < 3154; omega) ?_
        refine M_ias (pc := 112) hM 317 ((2 * k + 1)) dX9_check_112 (by decide) (by decide) (by rw [show (1 : Int32) = nI 1 from rfl, nI_add]) (by show (_ : Nat) < 60; omega) ?_
        refine V_inc (pc := 113) (fun y => [(0, .ref m), (1, .int (nI N)), (2, .int (nI M)), (3, .int y), (4, .int (nI k)), (5, .int (nI ((dayF (A 288) nt n).2)))]) (w := 2) dX9_check_113 (by decide) (by decide) rfl (fun _ => rfl) (fun y113 ey113 => ?_)
        obtain rfl : y113 = nI (2 * (k + 1)) := by rw [ey113]; rw [show (2 : Int32) = nI 2 from rfl, nI_add]; rfl
        refine V_inc (pc := 116) (fun y => [(0, .ref m), (1, .int (nI N)), (2, .int (nI M)), (3, .int (nI (2 * (k + 1)))), (4, .int y), (5, .int (nI ((dayF (A 288) nt n).2)))]) (w := 1) dX9_check_116 (by decide) (by decide) rfl (fun _ => rfl) (fun y116 ey116 => ?_)
        obtain rfl : y116 = nI (k + 1) := by rw [ey116]; exact nI_1 _
        refine V_goto (pc := 119) (t := 64) dX9_check_119 (by decide) ?_
        refine V_lp [0, 1, 2, 3, 4] (ls' := [(0, .ref m), (1, .int (nI N)), (2, .int (nI M)), (3, .int (nI (2 * (k + 1)))), (4, .int (nI (k + 1)))]) rfl ?_
        refine ih (k + 1) (by omega) _ ⟨?_, ?_, ?_, hn1⟩
        · rw [va_up_ne _ _ (by decide), va_up_ne _ _ (by decide)]; exact e28
        · rw [va_up_self, va_up_self, va_up_ne _ _ (by decide), e27, e28, ← dA_0, ← dA_1, lyd2]
        · intro f h1 h2 h3 h4
          rw [va_up_ne _ _ h4, va_up_ne _ _ h4, hs f h2 h3, uA_ne _ _ h1]; exact hA.2.2.1 f h1 h2 h3 h4
set_option maxRecDepth 100000 in
set_option maxHeartbeats 4000000 in
theorem M_check {x : pX} {d : Nat} {S : pS} {m : Nat} {as : Nat → Nat} {A : Nat → Nat → Int32} {F : Nat → Int32} {Q : Int32 → pS → Prop} (hM : MF S m as) {c n nt np : Nat} {v : Int32} (hc : F 316 = nI c) (hc60 : c ≤ 60) (hI : F 291 = 0 ∨ MI (lyd (A 289) (A 288) 2954) n nt np) (h : ∀ A2, se A A2 → Q (o_check (A 315) (lyd (A 289) (A 288) 2954) c n nt (F 291) v) (mP S m as A2 (va_up F 316 0))) : PI x (d + 8) M_X9_check [.ref m, .int v] (mP S m as A F) Q := by
  unfold o_check at h
  refine PM_of (by decide +kernel) (Nat.le_of_ble_eq_true rfl) ?_
  show V x (d + 8) M_X9_check (qi Q) (0, 0) 0 [(0, .ref m), (1, .int v)] [] (mP S m as A F)
  refine V_aln (pc := 0) dX9_check_0 rfl rfl ?_
  refine M_gi (pc := 1) hM 28 316 dX9_check_1 (FL_X9_314 rfl) rfl rfl ?_
  refine V_isn (pc := 4) (fun y => [(0, .ref m), (1, .int v), (2, .int y)]) dX9_check_4 rfl (by decide) (fun _ => rfl) (fun y4 ey4 => ?_)
  obtain rfl : y4 = nI c := by rw [ey4]; exact hc
  refine V_aln (pc := 5) dX9_check_5 rfl rfl ?_
  refine V_iconst (pc := 6) (v := 0) dX9_check_6 (by decide) ?_
  refine M_pi (pc := 7) hM 28 316 dX9_check_7 (FL_X9_314 rfl) rfl rfl rfl ?_
  refine V_iln (pc := 10) dX9_check_10 rfl rfl ?_
  refine V_i2l (pc := 11) dX9_check_11 ?_
  refine V_lconst (pc := 12) (v := 1) dX9_check_12 (by decide) ?_
  refine V_ldc2 (pc := 13) dX9_check_13 (KC_X9_317 rfl) ?_
  refine V_cSi0 (pc := 16) (jc_X9_62 dX9_check_16 rfl) rfl rfl (Nat.le_of_ble_eq_true rfl) ?_
  refine m_isIn (l := 1) 1 30 (by decide) (by decide) (fun a1 a2 => ?_) (fun a0 => ?_)
  · obtain ⟨N, hN, e1, e2, e3⟩ := idx_of (w := v) (n := 31) (by decide) (by omega) (by omega)
    subst e1
    rw [if_pos (by omega), e3] at h
    refine V_ne (pc := 19) (t := 25) dX9_check_19 (by decide) (fun _ => ?_) (fun h => absurd h (by decide))
    refine V_aln (pc := 25) dX9_check_25 rfl rfl ?_
    refine M_gi (pc := 26) hM 3 291 dX9_check_26 (FL_X9_319 rfl) rfl rfl ?_
    refine V_ne (pc := 29) (t := 35) dX9_check_29 (by decide) (fun h29 => ?_) (fun h29 => ?_)
    · rw [va_up_ne _ _ (by decide)] at h29
      rw [if_neg h29] at h
      have hI := hI.resolve_left h29
      refine V_aln (pc := 35) dX9_check_35 rfl rfl ?_
      refine V_aln (pc := 36) dX9_check_36 rfl rfl ?_
      refine M_gr (pc := 37) hM 0 288 dX9_check_37 (FL_X9_7 rfl) rfl rfl (by decide) ?_
      refine V_aln (pc := 40) dX9_check_40 rfl rfl ?_
      refine M_gr (pc := 41) hM 2 290 dX9_check_41 (FL_X9_16 rfl) rfl rfl (by decide) ?_
      refine V_cVv0 (pc := 44) (jc_X9_323 dX9_check_44 rfl) rfl rfl (Nat.le_of_ble_eq_true rfl) (mF_k hM) ?_
      refine m_setAside hM (p := 288) (q := 290) (by decide) (by decide) rfl rfl (by decide) ?_
      refine V_aln (pc := 47) dX9_check_47 rfl rfl ?_
      refine V_aln (pc := 48) dX9_check_48 rfl rfl ?_
      refine M_gr (pc := 49) hM 1 289 dX9_check_49 (FL_X9_13 rfl) rfl rfl (by decide) ?_
      refine V_aln (pc := 52) dX9_check_52 rfl rfl ?_
      refine M_gr (pc := 53) hM 0 288 dX9_check_53 (FL_X9_7 rfl) rfl rfl (by decide) ?_
      refine V_cVv0 (pc := 56) (jc_X9_323 dX9_check_56 rfl) rfl rfl (Nat.le_of_ble_eq_true rfl) (mF_k hM) ?_
      refine m_setAside hM (p := 289) (q := 288) (by decide) (by decide) rfl rfl (by decide) ?_
      refine V_iconst (pc := 59) (v := 0) dX9_check_59 (by decide) ?_
      refine V_isn (pc := 60) (fun y => [(0, .ref m), (1, .int (nI N)), (2, .int (nI c)), (3, .int y)]) dX9_check_60 rfl (by decide) (fun _ => rfl) (fun y60 ey60 => ?_)
      obtain rfl : y60 = nI 0 := ey60
      refine V_iconst (pc := 61) (v := 0) dX9_check_61 (by decide) ?_
      refine V_is (pc := 62) (fun y => [(0, .ref m), (1, .int (nI N)), (2, .int (nI c)), (3, .int (nI 0)), (4, .int y)]) dX9_check_62 (by decide) (fun _ => rfl) (fun y62 ey62 => ?_)
      obtain rfl : y62 = nI 0 := ey62
      refine m_check_L1 (σ := A 288) (τ := lyd (A 289) (A 288) 2954) (a0 := A 290) (r0 := A 317) (w := A 315) hM (by omega) hc60 hI (fun j hj => by unfold lyd; rw [if_neg (by omega)]) ?_ ?_ (fun A2 h1 h2 => h A2 (fun f g1 g2 g3 g4 g5 => ?_)) N 0 (by omega) _ ⟨?_, ?_, ?_, rfl⟩ (A0 := va_up (va_up A 290 (lyd (A 288) (A 290) 2954)) 288 (lyd (A 289) (A 288) 2954))
      · rfl
      · rfl
      · by_cases hf : f = 288
        · subst hf; exact h2
        · rw [h1 f hf g2 g3 g5, va_up_ne _ _ hf, va_up_ne _ _ g1]
      · rfl
      · rw [show 2 * 0 = 0 from rfl, lyd_0]; rfl
      · intro f h1 h2 h3 h4
        rfl
    · rw [va_up_ne _ _ (by decide)] at h29
      rw [if_pos h29] at h
      refine V_ldc (pc := 32) dX9_check_32 (KC_X9_139 rfl) ?_
      refine V_iret (pc := 34) dX9_check_34 rfl rfl ?_
      exact h A se.rf
  · rw [if_neg (by omega)] at h
    refine V_ne (pc := 19) (t := 25) dX9_check_19 (by decide) (fun h => absurd h (by decide)) (fun _ => ?_)
    refine V_ldc (pc := 22) dX9_check_22 (KC_X9_82 rfl) ?_
    refine V_iret (pc := 24) dX9_check_24 rfl rfl ?_
    exact h A se.rf
