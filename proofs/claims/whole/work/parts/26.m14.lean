/-! ===== the model: a piece, a text ===== -/
section RDR
variable {tp : Nat → Int32} {L : Nat} {key : Int32} {f b n : Nat} {s : tk} {o : sps}
theorem rdP_n (c : s.2.2 = 2) : rdP tp L key (f + 1) 5 b n s o = (true, nxs tp L s, o ++ [(0, dgt tp s.1 (s.2.1 - s.1))]) := by
  show (if 5 < 5 then _ else if 5 = 5 then _ else _) = _
  rw [if_neg (by omega), if_pos rfl, if_pos c]
theorem rdP_w (c : s.2.2 = 1 ∧ s.2.1 - s.1 = 1 ∧ isNm key (tp s.1)) : rdP tp L key (f + 1) 5 b n s o = (true, nxs tp L s, o ++ [(1, tp s.1)]) := by
  show (if 5 < 5 then _ else if 5 = 5 then _ else _) = _
  rw [if_neg (by omega), if_pos rfl, if_neg (by omega), if_pos c]
theorem rdP_t (c : s.2.2 = 3) (c2 : tp s.1 = 33) (c3 : n < 8) : rdP tp L key (f + 1) 5 b n s o = if (rdP tp L key f 5 b (n + 1) (nxs tp L s) o).1 = true then (true, (rdP tp L key f 5 b (n + 1) (nxs tp L s) o).2.1, (rdP tp L key f 5 b (n + 1) (nxs tp L s) o).2.2 ++ [(2, 33)]) else rdP tp L key f 5 b (n + 1) (nxs tp L s) o := by
  show (if 5 < 5 then _ else if 5 = 5 then _ else _) = _
  rw [if_neg (by omega), if_pos rfl, if_neg (by omega), if_neg (by omega), if_pos ⟨c, c2, c3⟩]
theorem rdP_b (c : s.2.2 = 3) (c2 : tp s.1 = 40) (c3 : b < 8) : rdP tp L key (f + 1) 5 b n s o = if (rdP tp L key f 0 (b + 1) n (nxs tp L s) o).1 = true then (if (rdP tp L key f 0 (b + 1) n (nxs tp L s) o).2.1.2.2 = 3 ∧ tp (rdP tp L key f 0 (b + 1) n (nxs tp L s) o).2.1.1 = 41 then (true, nxs tp L (rdP tp L key f 0 (b + 1) n (nxs tp L s) o).2.1, (rdP tp L key f 0 (b + 1) n (nxs tp L s) o).2.2) else (false, (rdP tp L key f 0 (b + 1) n (nxs tp L s) o).2)) else rdP tp L key f 0 (b + 1) n (nxs tp L s) o := by
  show (if 5 < 5 then _ else if 5 = 5 then _ else _) = _
  rw [if_neg (by omega), if_pos rfl, if_neg (by omega), if_neg (by omega), if_neg (fun q => absurd (c2.symm.trans q.2.1) (by decide)), if_pos ⟨c, c2, c3⟩]
theorem rdP_f (c1 : ¬ s.2.2 = 2) (c2 : ¬ (s.2.2 = 1 ∧ s.2.1 - s.1 = 1 ∧ isNm key (tp s.1))) (c3 : ¬ (s.2.2 = 3 ∧ tp s.1 = 33 ∧ n < 8)) (c4 : ¬ (s.2.2 = 3 ∧ tp s.1 = 40 ∧ b < 8)) : rdP tp L key (f + 1) 5 b n s o = (false, s, o) := by
  show (if 5 < 5 then _ else if 5 = 5 then _ else _) = _
  rw [if_neg (by omega), if_pos rfl, if_neg c1, if_neg c2, if_neg c3, if_neg c4]
end RDR
theorem isNm_0 {key : Int32} : ¬ isNm key 0 := by
  rintro (⟨_, e | e | e⟩ | ⟨_, e | e⟩ | ⟨_, _, e | e⟩) <;> exact absurd e (by decide)
set_option maxRecDepth 100000 in
set_option maxHeartbeats 4000000 in
theorem m_part0_E {x : pX} {S : pS} {m : Nat} {as : Nat → Nat} {A0 : Nat → Nat → Int32} {F0 tp : Nat → Int32} {L : Nat} {key : Int32} {z f : Nat} (hM : MF S m as) (hT : A0 300 = tp) (hL : F0 301 = nI L) (h96 : L ≤ 96) (hz : z ≤ 2954) (i5 : CT x S m as A0 F0 tp L key z M_X9_part0 5 f) (i0 : CT x S m as A0 F0 tp L key z M_X9_either 0 f) : CT x S m as A0 F0 tp L key z M_X9_part0 5 (f + 1) := by
  intro d b n s o F Q ht ho hb hn hf hP h1 h0
  have g1 := ht.1
  have g2 := ht.2.1
  have g3 := ht.2.2.1
  have g4 := ht.2.2.2
  have nk := nxs_ok tp ht
  unfold fuN at hf
  rw [if_pos (by decide)] at hf
  refine PM_of (by decide +kernel) (Nat.le_of_ble_eq_true rfl) ?_
  show V x (d + f + 4 + 1) M_X9_part0 (qi Q) (0, 0) 0 [(0, .ref m), (1, .int key)] [] (mP S m as (uA A0 (stl (A0 288) z o)) F)
  refine V_aln (pc := 0) dX9_part0_0 rfl rfl ?_
  refine M_gi (pc := 1) hM 16 304 dX9_part0_1 (FL_X9_214 rfl) rfl rfl ?_
  refine V_iconst (pc := 4) (v := 2) dX9_part0_4 (by decide) ?_
  refine V_cne (pc := 5) (t := 33) dX9_part0_5 (by decide) (fun h5 => ?_) (fun h5 => ?_)
  · have c1 : ¬ s.2.2 = 2 := fun q => h5 (by rw [hP.1.1.2.2, q]; rfl)
    refine V_aln (pc := 33) dX9_part0_33 rfl rfl ?_
    refine M_gi (pc := 34) hM 16 304 dX9_part0_34 (FL_X9_214 rfl) rfl rfl ?_
    refine V_iconst (pc := 37) (v := 1) dX9_part0_37 (by decide) ?_
    refine V_cne (pc := 38) (t := 84) dX9_part0_38 (by decide) (fun h38 => ?_) (fun h38 => ?_)
    · have hw : ¬ (s.2.2 = 1 ∧ s.2.1 - s.1 = 1 ∧ isNm key (tp s.1)) := fun q => h38 (by rw [hP.1.1.2.2, q.1]; rfl)
      refine V_aln (pc := 84) dX9_part0_84 rfl rfl ?_
      refine V_bipush (pc := 85) (v := 33) dX9_part0_85 (by decide) ?_
      refine V_cVi0 (pc := 87) (jc_X9_245 dX9_part0_87 rfl) rfl rfl (Nat.le_of_ble_eq_true rfl) (mF_k hM) ?_
      refine m_isSign (s := s) (tp := tp) hM hP.1 g4 (fun q3 e => ?_) (fun q33 => ?_)
      · refine V_eq (pc := 90) (t := 145) dX9_part0_90 (by decide) (fun h => absurd h (by decide)) (fun _ => ?_)
        refine V_aln (pc := 93) dX9_part0_93 rfl rfl ?_
        refine M_gi (pc := 94) hM 20 308 dX9_part0_94 (FL_X9_271 rfl) rfl rfl ?_
        refine V_bipush (pc := 97) (v := 8) dX9_part0_97 (by decide) ?_
        refine V_cge (pc := 99) (t := 145) dX9_part0_99 (by decide) (fun h99 => ?_) (fun h99 => ?_)
        · have n8 : ¬ n < 8 := fun q => nI_ge (b := 8) q (by decide) (by rw [← hP.2.1.2.1]; exact h99)
          refine V_aln (pc := 145) dX9_part0_145 rfl rfl ?_
          refine V_bipush (pc := 146) (v := 40) dX9_part0_146 (by decide) ?_
          refine V_cVi0 (pc := 148) (jc_X9_245 dX9_part0_148 rfl) rfl rfl (Nat.le_of_ble_eq_true rfl) (mF_k hM) ?_
          refine m_isSign (s := s) (tp := tp) hM hP.1 g4 (fun q4 e4 => ?_) (fun q40 => ?_)
          · exact absurd (e.symm.trans e4) (by decide)
          · refine V_eq (pc := 151) (t := 163) dX9_part0_151 (by decide) (fun _ => ?_) (fun h => absurd h (by decide))
            refine V_iconst (pc := 163) (v := 0) dX9_part0_163 (by decide) ?_
            refine V_iret (pc := 164) dX9_part0_164 rfl rfl ?_
            rw [rdP_f c1 hw (fun q => by first | exact n8 q.2.2 | exact q33 ⟨q.1, q.2.1⟩) (fun q => by first | exact b8 q.2.2 | exact q40 ⟨q.1, q.2.1⟩)] at h0
            exact h0 F rfl hP.fl
        · have n8 : n < 8 := Nat.lt_of_not_le (fun q => h99 (by rw [hP.2.1.2.1]; exact nI_le (a := 8) q (by omega)))
          rw [rdP_t q3 e n8] at h1 h0
          refine V_aln (pc := 102) dX9_part0_102 rfl rfl ?_
          refine V_dup (pc := 103) dX9_part0_103 rfl ?_
          refine M_gi (pc := 104) hM 20 308 dX9_part0_104 (FL_X9_271 rfl) rfl rfl ?_
          refine V_iconst (pc := 107) (v := 1) dX9_part0_107 (by decide) ?_
          refine V_iadd (pc := 108) dX9_part0_108 ?_
          refine M_pi (pc := 109) hM 20 308 dX9_part0_109 (FL_X9_271 rfl) rfl rfl rfl ?_
          have hP3 := hP.tn (n + 1) (v := F 308 + 1) (by rw [hP.2.1.2.1]; exact nI_1 n)
          refine V_aln (pc := 112) dX9_part0_112 rfl rfl ?_
          refine V_cVv0 (pc := 113) (jc_X9_248 dX9_part0_113 rfl) rfl rfl (Nat.le_of_ble_eq_true rfl) (mF_k hM) ?_
          refine m_nextToken hM (L := L) (tp := tp) (by rw [uA_ne _ _ (by decide)]; exact hT) ((hP3.2.2 301 (by decide)).trans hL) h96 g1 hP3.1.1.2.1 hP3.1.1.2.2 g4 (by omega) (fun Fn nf nt => ?_)
          refine V_aln (pc := 116) dX9_part0_116 rfl rfl ?_
          refine V_iln (pc := 117) dX9_part0_117 rfl rfl ?_
          refine V_cVi0 (pc := 118) (jc_X9_263 dX9_part0_118 rfl) rfl rfl (Nat.le_of_ble_eq_true rfl) (mF_k hM) ?_
          refine i5 d b (n + 1) (nxs tp L s) o Fn _ nk.1 (by omega) hb (by omega) (by unfold fuN; rw [if_pos (by decide)]; omega) (hP3.nx nf nt) (fun F2 r1 hP4 => ?_) (fun F2 r0 hP4 => ?_)
          · rw [if_pos r1] at h1
            have rk := rdP_ok tp L key f 5 b (n + 1) (nxs tp L s) o nk.1
            refine V_ne (pc := 121) (t := 126) dX9_part0_121 (by decide) (fun _ => ?_) (fun h => absurd h (by decide))
            refine V_aln (pc := 126) dX9_part0_126 rfl rfl ?_
            refine V_dup (pc := 127) dX9_part0_127 rfl ?_
            refine M_gi (pc := 128) hM 20 308 dX9_part0_128 (FL_X9_271 rfl) rfl rfl ?_
            refine V_iconst (pc := 131) (v := 1) dX9_part0_131 (by decide) ?_
            refine V_isub (pc := 132) dX9_part0_132 ?_
            refine M_pi (pc := 133) hM 20 308 dX9_part0_133 (FL_X9_271 rfl) rfl rfl rfl ?_
            have hP5 := hP4.tn n (v := F2 308 - 1) (by rw [hP4.2.1.2.1, show (1 : Int32) = nI 1 from rfl, nI_sub (by omega)]; rfl)
            refine V_aln (pc := 136) dX9_part0_136 rfl rfl ?_
            refine V_iconst (pc := 137) (v := 2) dX9_part0_137 (by decide) ?_
            refine V_bipush (pc := 138) (v := 33) dX9_part0_138 (by decide) ?_
            refine V_cVv0 (pc := 140) (jc_X9_251 dX9_part0_140 rfl) rfl rfl (Nat.le_of_ble_eq_true rfl) (mF_k hM) ?_
            refine m_step (A0 := A0) (z := z) (o := (rdP tp L key f 5 b (n + 1) (nxs tp L s) o).2.2) hM rfl hP5.2.1.2.2.2.1 hP5.2.1.2.2.1 (by have := rk.1.1; have := rk.1.2.1; omega) ?_
            refine V_iconst (pc := 143) (v := 1) dX9_part0_143 (by decide) ?_
            refine V_iret (pc := 144) dX9_part0_144 rfl rfl ?_
            exact h1 _ rfl (hP5.sg 33)
          · rw [if_neg (by rw [r0]; decide)] at h0
            refine V_ne (pc := 121) (t := 126) dX9_part0_121 (by decide) (fun h => absurd h (by decide)) (fun _ => ?_)
            refine V_iconst (pc := 124) (v := 0) dX9_part0_124 (by decide) ?_
            refine V_iret (pc := 125) dX9_part0_125 rfl rfl ?_
            exact h0 F2 r0 hP4
      · refine V_eq (pc := 90) (t := 145) dX9_part0_90 (by decide) (fun _ => ?_) (fun h => absurd h (by decide))
        refine V_aln (pc := 145) dX9_part0_145 rfl rfl ?_
        refine V_bipush (pc := 146) (v := 40) dX9_part0_146 (by decide) ?_
        refine V_cVi0 (pc := 148) (jc_X9_245 dX9_part0_148 rfl) rfl rfl (Nat.le_of_ble_eq_true rfl) (mF_k hM) ?_
        refine m_isSign (s := s) (tp := tp) hM hP.1 g4 (fun q4 e4 => ?_) (fun q40 => ?_)
        · refine V_eq (pc := 151) (t := 163) dX9_part0_151 (by decide) (fun h => absurd h (by decide)) (fun _ => ?_)
          refine V_aln (pc := 154) dX9_part0_154 rfl rfl ?_
          refine M_gi (pc := 155) hM 19 307 dX9_part0_155 (FL_X9_274 rfl) rfl rfl ?_
          refine V_bipush (pc := 158) (v := 8) dX9_part0_158 (by decide) ?_
          refine V_cne (pc := 160) (t := 165) dX9_part0_160 (by decide) (fun h160 => ?_) (fun h160 => ?_)
          · have b8 : b < 8 := by
              have q : ¬ b = 8 := fun q => h160 (by rw [hP.2.1.1, q]; rfl)
              omega
            rw [rdP_b q4 e4 b8] at h1 h0
            refine V_aln (pc := 165) dX9_part0_165 rfl rfl ?_
            refine V_dup (pc := 166) dX9_part0_166 rfl ?_
            refine M_gi (pc := 167) hM 19 307 dX9_part0_167 (FL_X9_274 rfl) rfl rfl ?_
            refine V_iconst (pc := 170) (v := 1) dX9_part0_170 (by decide) ?_
            refine V_iadd (pc := 171) dX9_part0_171 ?_
            refine M_pi (pc := 172) hM 19 307 dX9_part0_172 (FL_X9_274 rfl) rfl rfl rfl ?_
            have hP3 := hP.dp (b + 1) (v := F 307 + 1) (by rw [hP.2.1.1]; exact nI_1 b)
            refine V_aln (pc := 175) dX9_part0_175 rfl rfl ?_
            refine V_cVv0 (pc := 176) (jc_X9_248 dX9_part0_176 rfl) rfl rfl (Nat.le_of_ble_eq_true rfl) (mF_k hM) ?_
            refine m_nextToken hM (L := L) (tp := tp) (by rw [uA_ne _ _ (by decide)]; exact hT) ((hP3.2.2 301 (by decide)).trans hL) h96 g1 hP3.1.1.2.1 hP3.1.1.2.2 g4 (by omega) (fun Fn nf nt => ?_)
            refine V_aln (pc := 179) dX9_part0_179 rfl rfl ?_
            refine V_iln (pc := 180) dX9_part0_180 rfl rfl ?_
            refine V_cVi0 (pc := 181) (jc_X9_277 dX9_part0_181 rfl) rfl rfl (Nat.le_of_ble_eq_true rfl) (mF_k hM) ?_
            refine i0 d (b + 1) n (nxs tp L s) o Fn _ nk.1 (by omega) (by omega) hn (by unfold fuN; rw [if_pos (by decide)]; omega) (hP3.nx nf nt) (fun F2 r1 hP4 => ?_) (fun F2 r0 hP4 => ?_)
            · rw [if_pos r1] at h1 h0
              have rk := rdP_ok tp L key f 0 (b + 1) n (nxs tp L s) o nk.1
              refine V_eq (pc := 184) (t := 196) dX9_part0_184 (by decide) (fun h => absurd h (by decide)) (fun _ => ?_)
              refine V_aln (pc := 187) dX9_part0_187 rfl rfl ?_
              refine V_bipush (pc := 188) (v := 41) dX9_part0_188 (by decide) ?_
              refine V_cVi0 (pc := 190) (jc_X9_245 dX9_part0_190 rfl) rfl rfl (Nat.le_of_ble_eq_true rfl) (mF_k hM) ?_
              refine m_isSign (s := (rdP tp L key f 0 (b + 1) n (nxs tp L s) o).2.1) (tp := tp) hM hP4.1 rk.1.2.2.2 (fun q5 e5 => ?_) (fun q41 => ?_)
              · rw [if_pos ⟨q5, e5⟩] at h1
                refine V_ne (pc := 193) (t := 198) dX9_part0_193 (by decide) (fun _ => ?_) (fun h => absurd h (by decide))
                refine V_aln (pc := 198) dX9_part0_198 rfl rfl ?_
                refine V_dup (pc := 199) dX9_part0_199 rfl ?_
                refine M_gi (pc := 200) hM 19 307 dX9_part0_200 (FL_X9_274 rfl) rfl rfl ?_
                refine V_iconst (pc := 203) (v := 1) dX9_part0_203 (by decide) ?_
                refine V_isub (pc := 204) dX9_part0_204 ?_
                refine M_pi (pc := 205) hM 19 307 dX9_part0_205 (FL_X9_274 rfl) rfl rfl rfl ?_
                have hP5 := hP4.dp b (v := F2 307 - 1) (by rw [hP4.2.1.1, show (1 : Int32) = nI 1 from rfl, nI_sub (by omega)]; rfl)
                refine V_aln (pc := 208) dX9_part0_208 rfl rfl ?_
                refine V_cVv0 (pc := 209) (jc_X9_248 dX9_part0_209 rfl) rfl rfl (Nat.le_of_ble_eq_true rfl) (mF_k hM) ?_
                refine m_nextToken hM (L := L) (tp := tp) (by rw [uA_ne _ _ (by decide)]; exact hT) ((hP5.2.2 301 (by decide)).trans hL) h96 rk.1.1 hP5.1.1.2.1 hP5.1.1.2.2 rk.1.2.2.2 (by have := rk.1.2.2.1; omega) (fun Fm mf mt => ?_)
                refine V_iconst (pc := 212) (v := 1) dX9_part0_212 (by decide) ?_
                refine V_iret (pc := 213) dX9_part0_213 rfl rfl ?_
                exact h1 Fm rfl (hP5.nx mf mt)
              · rw [if_neg q41] at h0
                refine V_ne (pc := 193) (t := 198) dX9_part0_193 (by decide) (fun h => absurd h (by decide)) (fun _ => ?_)
                refine V_iconst (pc := 196) (v := 0) dX9_part0_196 (by decide) ?_
                refine V_iret (pc := 197) dX9_part0_197 rfl rfl ?_
                first | exact h0 F2 r0 hP4 | exact h0 F2 rfl hP4.fl
            · rw [if_neg (by rw [r0]; decide)] at h0
              refine V_eq (pc := 184) (t := 196) dX9_part0_184 (by decide) (fun _ => ?_) (fun h => absurd h (by decide))
              refine V_iconst (pc := 196) (v := 0) dX9_part0_196 (by decide) ?_
              refine V_iret (pc := 197) dX9_part0_197 rfl rfl ?_
              first | exact h0 F2 r0 hP4 | exact h0 F2 rfl hP4.fl
          · have b8 : ¬ b < 8 := by
              have q : b = 8 := (nI_eq (b := 8) (by omega) (by decide)).mp (by rw [← hP.2.1.1]; exact h160)
              omega
            refine V_iconst (pc := 163) (v := 0) dX9_part0_163 (by decide) ?_
            refine V_iret (pc := 164) dX9_part0_164 rfl rfl ?_
            rw [rdP_f c1 hw (fun q => by first | exact n8 q.2.2 | exact q33 ⟨q.1, q.2.1⟩) (fun q => by first | exact b8 q.2.2 | exact q40 ⟨q.1, q.2.1⟩)] at h0
            exact h0 F rfl hP.fl
        · refine V_eq (pc := 151) (t := 163) dX9_part0_151 (by decide) (fun _ => ?_) (fun h => absurd h (by decide))
          refine V_iconst (pc := 163) (v := 0) dX9_part0_163 (by decide) ?_
          refine V_iret (pc := 164) dX9_part0_164 rfl rfl ?_
          rw [rdP_f c1 hw (fun q => by first | exact n8 q.2.2 | exact q33 ⟨q.1, q.2.1⟩) (fun q => by first | exact b8 q.2.2 | exact q40 ⟨q.1, q.2.1⟩)] at h0
          exact h0 F rfl hP.fl
    · have w1 : s.2.2 = 1 := (nI_eq (b := 1) (by omega) (by decide)).mp (by rw [← hP.1.1.2.2]; exact h38)
      have e0 := hP.1.2.1 w1
      refine V_aln (pc := 41) dX9_part0_41 rfl rfl ?_
      refine M_gi (pc := 42) hM 18 306 dX9_part0_42 (FL_X9_223 rfl) rfl rfl ?_
      refine V_eq (pc := 45) (t := 84) dX9_part0_45 (by decide) (fun h45 => ?_) (fun h45 => ?_)
      · have hw : ¬ (s.2.2 = 1 ∧ s.2.1 - s.1 = 1 ∧ isNm key (tp s.1)) := fun q => by
          rw [if_pos q.2.1, h45] at e0
          exact isNm_0 (e0 ▸ q.2.2)
        refine V_aln (pc := 84) dX9_part0_84 rfl rfl ?_
        refine V_bipush (pc := 85) (v := 33) dX9_part0_85 (by decide) ?_
        refine V_cVi0 (pc := 87) (jc_X9_245 dX9_part0_87 rfl) rfl rfl (Nat.le_of_ble_eq_true rfl) (mF_k hM) ?_
        refine m_isSign (s := s) (tp := tp) hM hP.1 g4 (fun q3 e => ?_) (fun q33 => ?_)
        · refine V_eq (pc := 90) (t := 145) dX9_part0_90 (by decide) (fun h => absurd h (by decide)) (fun _ => ?_)
          refine V_aln (pc := 93) dX9_part0_93 rfl rfl ?_
          refine M_gi (pc := 94) hM 20 308 dX9_part0_94 (FL_X9_271 rfl) rfl rfl ?_
          refine V_bipush (pc := 97) (v := 8) dX9_part0_97 (by decide) ?_
          refine V_cge (pc := 99) (t := 145) dX9_part0_99 (by decide) (fun h99 => ?_) (fun h99 => ?_)
          · have n8 : ¬ n < 8 := fun q => nI_ge (b := 8) q (by decide) (by rw [← hP.2.1.2.1]; exact h99)
            refine V_aln (pc := 145) dX9_part0_145 rfl rfl ?_
            refine V_bipush (pc := 146) (v := 40) dX9_part0_146 (by decide) ?_
            refine V_cVi0 (pc := 148) (jc_X9_245 dX9_part0_148 rfl) rfl rfl (Nat.le_of_ble_eq_true rfl) (mF_k hM) ?_
            refine m_isSign (s := s) (tp := tp) hM hP.1 g4 (fun q4 e4 => ?_) (fun q40 => ?_)
            · exact absurd (e.symm.trans e4) (by decide)
            · refine V_eq (pc := 151) (t := 163) dX9_part0_151 (by decide) (fun _ => ?_) (fun h => absurd h (by decide))
              refine V_iconst (pc := 163) (v := 0) dX9_part0_163 (by decide) ?_
              refine V_iret (pc := 164) dX9_part0_164 rfl rfl ?_
              rw [rdP_f c1 hw (fun q => by first | exact n8 q.2.2 | exact q33 ⟨q.1, q.2.1⟩) (fun q => by first | exact b8 q.2.2 | exact q40 ⟨q.1, q.2.1⟩)] at h0
              exact h0 F rfl hP.fl
          · have n8 : n < 8 := Nat.lt_of_not_le (fun q => h99 (by rw [hP.2.1.2.1]; exact nI_le (a := 8) q (by omega)))
            rw [rdP_t q3 e n8] at h1 h0
            refine V_aln (pc := 102) dX9_part0_102 rfl rfl ?_
            refine V_dup (pc := 103) dX9_part0_103 rfl ?_
            refine M_gi (pc := 104) hM 20 308 dX9_part0_104 (FL_X9_271 rfl) rfl rfl ?_
            refine V_iconst (pc := 107) (v := 1) dX9_part0_107 (by decide) ?_
            refine V_iadd (pc := 108) dX9_part0_108 ?_
            refine M_pi (pc := 109) hM 20 308 dX9_part0_109 (FL_X9_271 rfl) rfl rfl rfl ?_
            have hP3 := hP.tn (n + 1) (v := F 308 + 1) (by rw [hP.2.1.2.1]; exact nI_1 n)
            refine V_aln (pc := 112) dX9_part0_112 rfl rfl ?_
            refine V_cVv0 (pc := 113) (jc_X9_248 dX9_part0_113 rfl) rfl rfl (Nat.le_of_ble_eq_true rfl) (mF_k hM) ?_
            refine m_nextToken hM (L := L) (tp := tp) (by rw [uA_ne _ _ (by decide)]; exact hT) ((hP3.2.2 301 (by decide)).trans hL) h96 g1 hP3.1.1.2.1 hP3.1.1.2.2 g4 (by omega) (fun Fn nf nt => ?_)
            refine V_aln (pc := 116) dX9_part0_116 rfl rfl ?_
            refine V_iln (pc := 117) dX9_part0_117 rfl rfl ?_
            refine V_cVi0 (pc := 118) (jc_X9_263 dX9_part0_118 rfl) rfl rfl (Nat.le_of_ble_eq_true rfl) (mF_k hM) ?_
            refine i5 d b (n + 1) (nxs tp L s) o Fn _ nk.1 (by omega) hb (by omega) (by unfold fuN; rw [if_pos (by decide)]; omega) (hP3.nx nf nt) (fun F2 r1 hP4 => ?_) (fun F2 r0 hP4 => ?_)
            · rw [if_pos r1] at h1
              have rk := rdP_ok tp L key f 5 b (n + 1) (nxs tp L s) o nk.1
              refine V_ne (pc := 121) (t := 126) dX9_part0_121 (by decide) (fun _ => ?_) (fun h => absurd h (by decide))
              refine V_aln (pc := 126) dX9_part0_126 rfl rfl ?_
              refine V_dup (pc := 127) dX9_part0_127 rfl ?_
              refine M_gi (pc := 128) hM 20 308 dX9_part0_128 (FL_X9_271 rfl) rfl rfl ?_
              refine V_iconst (pc := 131) (v := 1) dX9_part0_131 (by decide) ?_
              refine V_isub (pc := 132) dX9_part0_132 ?_
              refine M_pi (pc := 133) hM 20 308 dX9_part0_133 (FL_X9_271 rfl) rfl rfl rfl ?_
              have hP5 := hP4.tn n (v := F2 308 - 1) (by rw [hP4.2.1.2.1, show (1 : Int32) = nI 1 from rfl, nI_sub (by omega)]; rfl)
              refine V_aln (pc := 136) dX9_part0_136 rfl rfl ?_
              refine V_iconst (pc := 137) (v := 2) dX9_part0_137 (by decide) ?_
              refine V_bipush (pc := 138) (v := 33) dX9_part0_138 (by decide) ?_
              refine V_cVv0 (pc := 140) (jc_X9_251 dX9_part0_140 rfl) rfl rfl (Nat.le_of_ble_eq_true rfl) (mF_k hM) ?_
              refine m_step (A0 := A0) (z := z) (o := (rdP tp L key f 5 b (n + 1) (nxs tp L s) o).2.2) hM rfl hP5.2.1.2.2.2.1 hP5.2.1.2.2.1 (by have := rk.1.1; have := rk.1.2.1; omega) ?_
              refine V_iconst (pc := 143) (v := 1) dX9_part0_143 (by decide) ?_
              refine V_iret (pc := 144) dX9_part0_144 rfl rfl ?_
              exact h1 _ rfl (hP5.sg 33)
            · rw [if_neg (by rw [r0]; decide)] at h0
              refine V_ne (pc := 121) (t := 126) dX9_part0_121 (by decide) (fun h => absurd h (by decide)) (fun _ => ?_)
              refine V_iconst (pc := 124) (v := 0) dX9_part0_124 (by decide) ?_
              refine V_iret (pc := 125) dX9_part0_125 rfl rfl ?_
              exact h0 F2 r0 hP4
        · refine V_eq (pc := 90) (t := 145) dX9_part0_90 (by decide) (fun _ => ?_) (fun h => absurd h (by decide))
          refine V_aln (pc := 145) dX9_part0_145 rfl rfl ?_
          refine V_bipush (pc := 146) (v := 40) dX9_part0_146 (by decide) ?_
          refine V_cVi0 (pc := 148) (jc_X9_245 dX9_part0_148 rfl) rfl rfl (Nat.le_of_ble_eq_true rfl) (mF_k hM) ?_
          refine m_isSign (s := s) (tp := tp) hM hP.1 g4 (fun q4 e4 => ?_) (fun q40 => ?_)
          · refine V_eq (pc := 151) (t := 163) dX9_part0_151 (by decide) (fun h => absurd h (by decide)) (fun _ => ?_)
            refine V_aln (pc := 154) dX9_part0_154 rfl rfl ?_
            refine M_gi (pc := 155) hM 19 307 dX9_part0_155 (FL_X9_274 rfl) rfl rfl ?_
            refine V_bipush (pc := 158) (v := 8) dX9_part0_158 (by decide) ?_
            refine V_cne (pc := 160) (t := 165) dX9_part0_160 (by decide) (fun h160 => ?_) (fun h160 => ?_)
            · have b8 : b < 8 := by
                have q : ¬ b = 8 := fun q => h160 (by rw [hP.2.1.1, q]; rfl)
                omega
              rw [rdP_b q4 e4 b8] at h1 h0
              refine V_aln (pc := 165) dX9_part0_165 rfl rfl ?_
              refine V_dup (pc := 166) dX9_part0_166 rfl ?_
              refine M_gi (pc := 167) hM 19 307 dX9_part0_167 (FL_X9_274 rfl) rfl rfl ?_
              refine V_iconst (pc := 170) (v := 1) dX9_part0_170 (by decide) ?_
              refine V_iadd (pc := 171) dX9_part0_171 ?_
              refine M_pi (pc := 172) hM 19 307 dX9_part0_172 (FL_X9_274 rfl) rfl rfl rfl ?_
              have hP3 := hP.dp (b + 1) (v := F 307 + 1) (by rw [hP.2.1.1]; exact nI_1 b)
              refine V_aln (pc := 175) dX9_part0_175 rfl rfl ?_
              refine V_cVv0 (pc := 176) (jc_X9_248 dX9_part0_176 rfl) rfl rfl (Nat.le_of_ble_eq_true rfl) (mF_k hM) ?_
              refine m_nextToken hM (L := L) (tp := tp) (by rw [uA_ne _ _ (by decide)]; exact hT) ((hP3.2.2 301 (by decide)).trans hL) h96 g1 hP3.1.1.2.1 hP3.1.1.2.2 g4 (by omega) (fun Fn nf nt => ?_)
              refine V_aln (pc := 179) dX9_part0_179 rfl rfl ?_
              refine V_iln (pc := 180) dX9_part0_180 rfl rfl ?_
              refine V_cVi0 (pc := 181) (jc_X9_277 dX9_part0_181 rfl) rfl rfl (Nat.le_of_ble_eq_true rfl) (mF_k hM) ?_
              refine i0 d (b + 1) n (nxs tp L s) o Fn _ nk.1 (by omega) (by omega) hn (by unfold fuN; rw [if_pos (by decide)]; omega) (hP3.nx nf nt) (fun F2 r1 hP4 => ?_) (fun F2 r0 hP4 => ?_)
              · rw [if_pos r1] at h1 h0
                have rk := rdP_ok tp L key f 0 (b + 1) n (nxs tp L s) o nk.1
                refine V_eq (pc := 184) (t := 196) dX9_part0_184 (by decide) (fun h => absurd h (by decide)) (fun _ => ?_)
                refine V_aln (pc := 187) dX9_part0_187 rfl rfl ?_
                refine V_bipush (pc := 188) (v := 41) dX9_part0_188 (by decide) ?_
                refine V_cVi0 (pc := 190) (jc_X9_245 dX9_part0_190 rfl) rfl rfl (Nat.le_of_ble_eq_true rfl) (mF_k hM) ?_
                refine m_isSign (s := (rdP tp L key f 0 (b + 1) n (nxs tp L s) o).2.1) (tp := tp) hM hP4.1 rk.1.2.2.2 (fun q5 e5 => ?_) (fun q41 => ?_)
                · rw [if_pos ⟨q5, e5⟩] at h1
                  refine V_ne (pc := 193) (t := 198) dX9_part0_193 (by decide) (fun _ => ?_) (fun h => absurd h (by decide))
                  refine V_aln (pc := 198) dX9_part0_198 rfl rfl ?_
                  refine V_dup (pc := 199) dX9_part0_199 rfl ?_
                  refine M_gi (pc := 200) hM 19 307 dX9_part0_200 (FL_X9_274 rfl) rfl rfl ?_
                  refine V_iconst (pc := 203) (v := 1) dX9_part0_203 (by decide) ?_
                  refine V_isub (pc := 204) dX9_part0_204 ?_
                  refine M_pi (pc := 205) hM 19 307 dX9_part0_205 (FL_X9_274 rfl) rfl rfl rfl ?_
                  have hP5 := hP4.dp b (v := F2 307 - 1) (by rw [hP4.2.1.1, show (1 : Int32) = nI 1 from rfl, nI_sub (by omega)]; rfl)
                  refine V_aln (pc := 208) dX9_part0_208 rfl rfl ?_
                  refine V_cVv0 (pc := 209) (jc_X9_248 dX9_part0_209 rfl) rfl rfl (Nat.le_of_ble_eq_true rfl) (mF_k hM) ?_
                  refine m_nextToken hM (L := L) (tp := tp) (by rw [uA_ne _ _ (by decide)]; exact hT) ((hP5.2.2 301 (by decide)).trans hL) h96 rk.1.1 hP5.1.1.2.1 hP5.1.1.2.2 rk.1.2.2.2 (by have := rk.1.2.2.1; omega) (fun Fm mf mt => ?_)
                  refine V_iconst (pc := 212) (v := 1) dX9_part0_212 (by decide) ?_
                  refine V_iret (pc := 213) dX9_part0_213 rfl rfl ?_
                  exact h1 Fm rfl (hP5.nx mf mt)
                · rw [if_neg q41] at h0
                  refine V_ne (pc := 193) (t := 198) dX9_part0_193 (by decide) (fun h => absurd h (by decide)) (fun _ => ?_)
                  refine V_iconst (pc := 196) (v := 0) dX9_part0_196 (by decide) ?_
                  refine V_iret (pc := 197) dX9_part0_197 rfl rfl ?_
                  first | exact h0 F2 r0 hP4 | exact h0 F2 rfl hP4.fl
              · rw [if_neg (by rw [r0]; decide)] at h0
                refine V_eq (pc := 184) (t := 196) dX9_part0_184 (by decide) (fun _ => ?_) (fun h => absurd h (by decide))
                refine V_iconst (pc := 196) (v := 0) dX9_part0_196 (by decide) ?_
                refine V_iret (pc := 197) dX9_part0_197 rfl rfl ?_
                first | exact h0 F2 r0 hP4 | exact h0 F2 rfl hP4.fl
            · have b8 : ¬ b < 8 := by
                have q : b = 8 := (nI_eq (b := 8) (by omega) (by decide)).mp (by rw [← hP.2.1.1]; exact h160)
                omega
              refine V_iconst (pc := 163) (v := 0) dX9_part0_163 (by decide) ?_
              refine V_iret (pc := 164) dX9_part0_164 rfl rfl ?_
              rw [rdP_f c1 hw (fun q => by first | exact n8 q.2.2 | exact q33 ⟨q.1, q.2.1⟩) (fun q => by first | exact b8 q.2.2 | exact q40 ⟨q.1, q.2.1⟩)] at h0
              exact h0 F rfl hP.fl
          · refine V_eq (pc := 151) (t := 163) dX9_part0_151 (by decide) (fun _ => ?_) (fun h => absurd h (by decide))
            refine V_iconst (pc := 163) (v := 0) dX9_part0_163 (by decide) ?_
            refine V_iret (pc := 164) dX9_part0_164 rfl rfl ?_
            rw [rdP_f c1 hw (fun q => by first | exact n8 q.2.2 | exact q33 ⟨q.1, q.2.1⟩) (fun q => by first | exact b8 q.2.2 | exact q40 ⟨q.1, q.2.1⟩)] at h0
            exact h0 F rfl hP.fl
      · have wl : s.2.1 - s.1 = 1 := by
          by_cases q : s.2.1 - s.1 = 1
          · exact q
          · rw [if_neg q] at e0; exact absurd e0 h45
        have e6 : F 306 = tp s.1 := by rw [e0, if_pos wl]
        refine V_iln (pc := 48) dX9_part0_48 rfl rfl ?_
        refine V_aln (pc := 49) dX9_part0_49 rfl rfl ?_
        refine M_gi (pc := 50) hM 18 306 dX9_part0_50 (FL_X9_223 rfl) rfl rfl ?_
        refine V_cSi0 (pc := 53) (jc_X9_268 dX9_part0_53 rfl) rfl rfl (Nat.le_of_ble_eq_true rfl) ?_
        refine m_isName (fun y => ?_) (fun y => ?_)
        · rw [e6] at y
          rw [rdP_w ⟨w1, wl, y⟩] at h1
          refine V_eq (pc := 56) (t := 84) dX9_part0_56 (by decide) (fun h => absurd h (by decide)) (fun _ => ?_)
          refine V_aln (pc := 59) dX9_part0_59 rfl rfl ?_
          refine V_iconst (pc := 60) (v := 1) dX9_part0_60 (by decide) ?_
          refine V_aln (pc := 61) dX9_part0_61 rfl rfl ?_
          refine M_gi (pc := 62) hM 18 306 dX9_part0_62 (FL_X9_223 rfl) rfl rfl ?_
          refine V_cVv0 (pc := 65) (jc_X9_251 dX9_part0_65 rfl) rfl rfl (Nat.le_of_ble_eq_true rfl) (mF_k hM) ?_
          rw [e6]
          refine m_step (A0 := A0) (z := z) (o := o) hM rfl hP.2.1.2.2.2.1 hP.2.1.2.2.1 (by omega) ?_
          refine V_aln (pc := 68) dX9_part0_68 rfl rfl ?_
          refine V_dup (pc := 69) dX9_part0_69 rfl ?_
          refine M_gi (pc := 70) hM 23 311 dX9_part0_70 (FL_X9_266 rfl) rfl rfl ?_
          refine V_iconst (pc := 73) (v := 1) dX9_part0_73 (by decide) ?_
          refine V_iadd (pc := 74) dX9_part0_74 ?_
          refine M_pi (pc := 75) hM 23 311 dX9_part0_75 (FL_X9_266 rfl) rfl rfl rfl ?_
          have hP3 := hP.pc (w := 1) (Or.inr rfl) (tp s.1)
          refine V_aln (pc := 78) dX9_part0_78 rfl rfl ?_
          refine V_cVv0 (pc := 79) (jc_X9_248 dX9_part0_79 rfl) rfl rfl (Nat.le_of_ble_eq_true rfl) (mF_k hM) ?_
          refine m_nextToken hM (L := L) (tp := tp) (by rw [uA_ne _ _ (by decide)]; exact hT) ((hP3.2.2 301 (by decide)).trans hL) h96 g1 hP3.1.1.2.1 hP3.1.1.2.2 g4 (by omega) (fun Fn nf nt => ?_)
          refine V_iconst (pc := 82) (v := 1) dX9_part0_82 (by decide) ?_
          refine V_iret (pc := 83) dX9_part0_83 rfl rfl ?_
          exact h1 Fn rfl (hP3.nx nf nt)
        · rw [e6] at y
          have hw : ¬ (s.2.2 = 1 ∧ s.2.1 - s.1 = 1 ∧ isNm key (tp s.1)) := fun q => y q.2.2
          refine V_eq (pc := 56) (t := 84) dX9_part0_56 (by decide) (fun _ => ?_) (fun h => absurd h (by decide))
          refine V_aln (pc := 84) dX9_part0_84 rfl rfl ?_
          refine V_bipush (pc := 85) (v := 33) dX9_part0_85 (by decide) ?_
          refine V_cVi0 (pc := 87) (jc_X9_245 dX9_part0_87 rfl) rfl rfl (Nat.le_of_ble_eq_true rfl) (mF_k hM) ?_
          refine m_isSign (s := s) (tp := tp) hM hP.1 g4 (fun q3 e => ?_) (fun q33 => ?_)
          · refine V_eq (pc := 90) (t := 145) dX9_part0_90 (by decide) (fun h => absurd h (by decide)) (fun _ => ?_)
            refine V_aln (pc := 93) dX9_part0_93 rfl rfl ?_
            refine M_gi (pc := 94) hM 20 308 dX9_part0_94 (FL_X9_271 rfl) rfl rfl ?_
            refine V_bipush (pc := 97) (v := 8) dX9_part0_97 (by decide) ?_
            refine V_cge (pc := 99) (t := 145) dX9_part0_99 (by decide) (fun h99 => ?_) (fun h99 => ?_)
            · have n8 : ¬ n < 8 := fun q => nI_ge (b := 8) q (by decide) (by rw [← hP.2.1.2.1]; exact h99)
              refine V_aln (pc := 145) dX9_part0_145 rfl rfl ?_
              refine V_bipush (pc := 146) (v := 40) dX9_part0_146 (by decide) ?_
              refine V_cVi0 (pc := 148) (jc_X9_245 dX9_part0_148 rfl) rfl rfl (Nat.le_of_ble_eq_true rfl) (mF_k hM) ?_
              refine m_isSign (s := s) (tp := tp) hM hP.1 g4 (fun q4 e4 => ?_) (fun q40 => ?_)
              · exact absurd (e.symm.trans e4) (by decide)
              · refine V_eq (pc := 151) (t := 163) dX9_part0_151 (by decide) (fun _ => ?_) (fun h => absurd h (by decide))
                refine V_iconst (pc := 163) (v := 0) dX9_part0_163 (by decide) ?_
                refine V_iret (pc := 164) dX9_part0_164 rfl rfl ?_
                rw [rdP_f c1 hw (fun q => by first | exact n8 q.2.2 | exact q33 ⟨q.1, q.2.1⟩) (fun q => by first | exact b8 q.2.2 | exact q40 ⟨q.1, q.2.1⟩)] at h0
                exact h0 F rfl hP.fl
            · have n8 : n < 8 := Nat.lt_of_not_le (fun q => h99 (by rw [hP.2.1.2.1]; exact nI_le (a := 8) q (by omega)))
              rw [rdP_t q3 e n8] at h1 h0
              refine V_aln (pc := 102) dX9_part0_102 rfl rfl ?_
              refine V_dup (pc := 103) dX9_part0_103 rfl ?_
              refine M_gi (pc := 104) hM 20 308 dX9_part0_104 (FL_X9_271 rfl) rfl rfl ?_
              refine V_iconst (pc := 107) (v := 1) dX9_part0_107 (by decide) ?_
              refine V_iadd (pc := 108) dX9_part0_108 ?_
              refine M_pi (pc := 109) hM 20 308 dX9_part0_109 (FL_X9_271 rfl) rfl rfl rfl ?_
              have hP3 := hP.tn (n + 1) (v := F 308 + 1) (by rw [hP.2.1.2.1]; exact nI_1 n)
              refine V_aln (pc := 112) dX9_part0_112 rfl rfl ?_
              refine V_cVv0 (pc := 113) (jc_X9_248 dX9_part0_113 rfl) rfl rfl (Nat.le_of_ble_eq_true rfl) (mF_k hM) ?_
              refine m_nextToken hM (L := L) (tp := tp) (by rw [uA_ne _ _ (by decide)]; exact hT) ((hP3.2.2 301 (by decide)).trans hL) h96 g1 hP3.1.1.2.1 hP3.1.1.2.2 g4 (by omega) (fun Fn nf nt => ?_)
              refine V_aln (pc := 116) dX9_part0_116 rfl rfl ?_
              refine V_iln (pc := 117) dX9_part0_117 rfl rfl ?_
              refine V_cVi0 (pc := 118) (jc_X9_263 dX9_part0_118 rfl) rfl rfl (Nat.le_of_ble_eq_true rfl) (mF_k hM) ?_
              refine i5 d b (n + 1) (nxs tp L s) o Fn _ nk.1 (by omega) hb (by omega) (by unfold fuN; rw [if_pos (by decide)]; omega) (hP3.nx nf nt) (fun F2 r1 hP4 => ?_) (fun F2 r0 hP4 => ?_)
              · rw [if_pos r1] at h1
                have rk := rdP_ok tp L key f 5 b (n + 1) (nxs tp L s) o nk.1
                refine V_ne (pc := 121) (t := 126) dX9_part0_121 (by decide) (fun _ => ?_) (fun h => absurd h (by decide))
                refine V_aln (pc := 126) dX9_part0_126 rfl rfl ?_
                refine V_dup (pc := 127) dX9_part0_127 rfl ?_
                refine M_gi (pc := 128) hM 20 308 dX9_part0_128 (FL_X9_271 rfl) rfl rfl ?_
                refine V_iconst (pc := 131) (v := 1) dX9_part0_131 (by decide) ?_
                refine V_isub (pc := 132) dX9_part0_132 ?_
                refine M_pi (pc := 133) hM 20 308 dX9_part0_133 (FL_X9_271 rfl) rfl rfl rfl ?_
                have hP5 := hP4.tn n (v := F2 308 - 1) (by rw [hP4.2.1.2.1, show (1 : Int32) = nI 1 from rfl, nI_sub (by omega)]; rfl)
                refine V_aln (pc := 136) dX9_part0_136 rfl rfl ?_
                refine V_iconst (pc := 137) (v := 2) dX9_part0_137 (by decide) ?_
                refine V_bipush (pc := 138) (v := 33) dX9_part0_138 (by decide) ?_
                refine V_cVv0 (pc := 140) (jc_X9_251 dX9_part0_140 rfl) rfl rfl (Nat.le_of_ble_eq_true rfl) (mF_k hM) ?_
                refine m_step (A0 := A0) (z := z) (o := (rdP tp L key f 5 b (n + 1) (nxs tp L s) o).2.2) hM rfl hP5.2.1.2.2.2.1 hP5.2.1.2.2.1 (by have := rk.1.1; have := rk.1.2.1; omega) ?_
                refine V_iconst (pc := 143) (v := 1) dX9_part0_143 (by decide) ?_
                refine V_iret (pc := 144) dX9_part0_144 rfl rfl ?_
                exact h1 _ rfl (hP5.sg 33)
              · rw [if_neg (by rw [r0]; decide)] at h0
                refine V_ne (pc := 121) (t := 126) dX9_part0_121 (by decide) (fun h => absurd h (by decide)) (fun _ => ?_)
                refine V_iconst (pc := 124) (v := 0) dX9_part0_124 (by decide) ?_
                refine V_iret (pc := 125) dX9_part0_125 rfl rfl ?_
                exact h0 F2 r0 hP4
          · refine V_eq (pc := 90) (t := 145) dX9_part0_90 (by decide) (fun _ => ?_) (fun h => absurd h (by decide))
            refine V_aln (pc := 145) dX9_part0_145 rfl rfl ?_
            refine V_bipush (pc := 146) (v := 40) dX9_part0_146 (by decide) ?_
            refine V_cVi0 (pc := 148) (jc_X9_245 dX9_part0_148 rfl) rfl rfl (Nat.le_of_ble_eq_true rfl) (mF_k hM) ?_
            refine m_isSign (s := s) (tp := tp) hM hP.1 g4 (fun q4 e4 => ?_) (fun q40 => ?_)
            · refine V_eq (pc := 151) (t := 163) dX9_part0_151 (by decide) (fun h => absurd h (by decide)) (fun _ => ?_)
              refine V_aln (pc := 154) dX9_part0_154 rfl rfl ?_
              refine M_gi (pc := 155) hM 19 307 dX9_part0_155 (FL_X9_274 rfl) rfl rfl ?_
              refine V_bipush (pc := 158) (v := 8) dX9_part0_158 (by decide) ?_
              refine V_cne (pc := 160) (t := 165) dX9_part0_160 (by decide) (fun h160 => ?_) (fun h160 => ?_)
              · have b8 : b < 8 := by
                  have q : ¬ b = 8 := fun q => h160 (by rw [hP.2.1.1, q]; rfl)
                  omega
                rw [rdP_b q4 e4 b8] at h1 h0
                refine V_aln (pc := 165) dX9_part0_165 rfl rfl ?_
                refine V_dup (pc := 166) dX9_part0_166 rfl ?_
                refine M_gi (pc := 167) hM 19 307 dX9_part0_167 (FL_X9_274 rfl) rfl rfl ?_
                refine V_iconst (pc := 170) (v := 1) dX9_part0_170 (by decide) ?_
                refine V_iadd (pc := 171) dX9_part0_171 ?_
                refine M_pi (pc := 172) hM 19 307 dX9_part0_172 (FL_X9_274 rfl) rfl rfl rfl ?_
                have hP3 := hP.dp (b + 1) (v := F 307 + 1) (by rw [hP.2.1.1]; exact nI_1 b)
                refine V_aln (pc := 175) dX9_part0_175 rfl rfl ?_
                refine V_cVv0 (pc := 176) (jc_X9_248 dX9_part0_176 rfl) rfl rfl (Nat.le_of_ble_eq_true rfl) (mF_k hM) ?_
                refine m_nextToken hM (L := L) (tp := tp) (by rw [uA_ne _ _ (by decide)]; exact hT) ((hP3.2.2 301 (by decide)).trans hL) h96 g1 hP3.1.1.2.1 hP3.1.1.2.2 g4 (by omega) (fun Fn nf nt => ?_)
                refine V_aln (pc := 179) dX9_part0_179 rfl rfl ?_
                refine V_iln (pc := 180) dX9_part0_180 rfl rfl ?_
                refine V_cVi0 (pc := 181) (jc_X9_277 dX9_part0_181 rfl) rfl rfl (Nat.le_of_ble_eq_true rfl) (mF_k hM) ?_
                refine i0 d (b + 1) n (nxs tp L s) o Fn _ nk.1 (by omega) (by omega) hn (by unfold fuN; rw [if_pos (by decide)]; omega) (hP3.nx nf nt) (fun F2 r1 hP4 => ?_) (fun F2 r0 hP4 => ?_)
                · rw [if_pos r1] at h1 h0
                  have rk := rdP_ok tp L key f 0 (b + 1) n (nxs tp L s) o nk.1
                  refine V_eq (pc := 184) (t := 196) dX9_part0_184 (by decide) (fun h => absurd h (by decide)) (fun _ => ?_)
                  refine V_aln (pc := 187) dX9_part0_187 rfl rfl ?_
                  refine V_bipush (pc := 188) (v := 41) dX9_part0_188 (by decide) ?_
                  refine V_cVi0 (pc := 190) (jc_X9_245 dX9_part0_190 rfl) rfl rfl (Nat.le_of_ble_eq_true rfl) (mF_k hM) ?_
                  refine m_isSign (s := (rdP tp L key f 0 (b + 1) n (nxs tp L s) o).2.1) (tp := tp) hM hP4.1 rk.1.2.2.2 (fun q5 e5 => ?_) (fun q41 => ?_)
                  · rw [if_pos ⟨q5, e5⟩] at h1
                    refine V_ne (pc := 193) (t := 198) dX9_part0_193 (by decide) (fun _ => ?_) (fun h => absurd h (by decide))
                    refine V_aln (pc := 198) dX9_part0_198 rfl rfl ?_
                    refine V_dup (pc := 199) dX9_part0_199 rfl ?_
                    refine M_gi (pc := 200) hM 19 307 dX9_part0_200 (FL_X9_274 rfl) rfl rfl ?_
                    refine V_iconst (pc := 203) (v := 1) dX9_part0_203 (by decide) ?_
                    refine V_isub (pc := 204) dX9_part0_204 ?_
                    refine M_pi (pc := 205) hM 19 307 dX9_part0_205 (FL_X9_274 rfl) rfl rfl rfl ?_
                    have hP5 := hP4.dp b (v := F2 307 - 1) (by rw [hP4.2.1.1, show (1 : Int32) = nI 1 from rfl, nI_sub (by omega)]; rfl)
                    refine V_aln (pc := 208) dX9_part0_208 rfl rfl ?_
                    refine V_cVv0 (pc := 209) (jc_X9_248 dX9_part0_209 rfl) rfl rfl (Nat.le_of_ble_eq_true rfl) (mF_k hM) ?_
                    refine m_nextToken hM (L := L) (tp := tp) (by rw [uA_ne _ _ (by decide)]; exact hT) ((hP5.2.2 301 (by decide)).trans hL) h96 rk.1.1 hP5.1.1.2.1 hP5.1.1.2.2 rk.1.2.2.2 (by have := rk.1.2.2.1; omega) (fun Fm mf mt => ?_)
                    refine V_iconst (pc := 212) (v := 1) dX9_part0_212 (by decide) ?_
                    refine V_iret (pc := 213) dX9_part0_213 rfl rfl ?_
                    exact h1 Fm rfl (hP5.nx mf mt)
                  · rw [if_neg q41] at h0
                    refine V_ne (pc := 193) (t := 198) dX9_part0_193 (by decide) (fun h => absurd h (by decide)) (fun _ => ?_)
                    refine V_iconst (pc := 196) (v := 0) dX9_part0_196 (by decide) ?_
                    refine V_iret (pc := 197) dX9_part0_197 rfl rfl ?_
                    first | exact h0 F2 r0 hP4 | exact h0 F2 rfl hP4.fl
                · rw [if_neg (by rw [r0]; decide)] at h0
                  refine V_eq (pc := 184) (t := 196) dX9_part0_184 (by decide) (fun _ => ?_) (fun h => absurd h (by decide))
                  refine V_iconst (pc := 196) (v := 0) dX9_part0_196 (by decide) ?_
                  refine V_iret (pc := 197) dX9_part0_197 rfl rfl ?_
                  first | exact h0 F2 r0 hP4 | exact h0 F2 rfl hP4.fl
              · have b8 : ¬ b < 8 := by
                  have q : b = 8 := (nI_eq (b := 8) (by omega) (by decide)).mp (by rw [← hP.2.1.1]; exact h160)
                  omega
                refine V_iconst (pc := 163) (v := 0) dX9_part0_163 (by decide) ?_
                refine V_iret (pc := 164) dX9_part0_164 rfl rfl ?_
                rw [rdP_f c1 hw (fun q => by first | exact n8 q.2.2 | exact q33 ⟨q.1, q.2.1⟩) (fun q => by first | exact b8 q.2.2 | exact q40 ⟨q.1, q.2.1⟩)] at h0
                exact h0 F rfl hP.fl
            · refine V_eq (pc := 151) (t := 163) dX9_part0_151 (by decide) (fun _ => ?_) (fun h => absurd h (by decide))
              refine V_iconst (pc := 163) (v := 0) dX9_part0_163 (by decide) ?_
              refine V_iret (pc := 164) dX9_part0_164 rfl rfl ?_
              rw [rdP_f c1 hw (fun q => by first | exact n8 q.2.2 | exact q33 ⟨q.1, q.2.1⟩) (fun q => by first | exact b8 q.2.2 | exact q40 ⟨q.1, q.2.1⟩)] at h0
              exact h0 F rfl hP.fl
  · refine V_aln (pc := 8) dX9_part0_8 rfl rfl ?_
    refine V_iconst (pc := 9) (v := 0) dX9_part0_9 (by decide) ?_
    refine V_aln (pc := 10) dX9_part0_10 rfl rfl ?_
    refine M_gi (pc := 11) hM 17 305 dX9_part0_11 (FL_X9_229 rfl) rfl rfl ?_
    have q2 : s.2.2 = 2 := (nI_eq (b := 2) (by omega) (by decide)).mp (by rw [← hP.1.1.2.2]; exact h5)
    rw [hP.1.2.2.1 q2]
    rw [rdP_n q2] at h1
    refine V_cVv0 (pc := 14) (jc_X9_251 dX9_part0_14 rfl) rfl rfl (Nat.le_of_ble_eq_true rfl) (mF_k hM) ?_
    refine m_step (A0 := A0) (z := z) (o := o) hM rfl hP.2.1.2.2.2.1 hP.2.1.2.2.1 (by omega) ?_
    refine V_aln (pc := 17) dX9_part0_17 rfl rfl ?_
    refine V_dup (pc := 18) dX9_part0_18 rfl ?_
    refine M_gi (pc := 19) hM 23 311 dX9_part0_19 (FL_X9_266 rfl) rfl rfl ?_
    refine V_iconst (pc := 22) (v := 1) dX9_part0_22 (by decide) ?_
    refine V_iadd (pc := 23) dX9_part0_23 ?_
    refine M_pi (pc := 24) hM 23 311 dX9_part0_24 (FL_X9_266 rfl) rfl rfl rfl ?_
    have hP3 := hP.pc (w := 0) (Or.inl rfl) (dgt tp s.1 (s.2.1 - s.1))
    refine V_aln (pc := 27) dX9_part0_27 rfl rfl ?_
    refine V_cVv0 (pc := 28) (jc_X9_248 dX9_part0_28 rfl) rfl rfl (Nat.le_of_ble_eq_true rfl) (mF_k hM) ?_
    refine m_nextToken hM (L := L) (tp := tp) (by rw [uA_ne _ _ (by decide)]; exact hT) ((hP3.2.2 301 (by decide)).trans hL) h96 g1 hP3.1.1.2.1 hP3.1.1.2.2 g4 (by omega) (fun Fn nf nt => ?_)
    refine V_iconst (pc := 31) (v := 1) dX9_part0_31 (by decide) ?_
    refine V_iret (pc := 32) dX9_part0_32 rfl rfl ?_
    exact h1 Fn rfl (hP3.nx nf nt)
theorem m_read {x : pX} {S : pS} {m : Nat} {as : Nat → Nat} {A0 : Nat → Nat → Int32} {F0 tp : Nat → Int32} {L : Nat} {key : Int32} {z : Nat} (hM : MF S m as) (hT : A0 300 = tp) (hL : F0 301 = nI L) (h96 : L ≤ 96) (hz : z ≤ 2954) : ∀ f, CT x S m as A0 F0 tp L key z M_X9_either 0 f ∧ CT x S m as A0 F0 tp L key z M_X9_both 1 f ∧ CT x S m as A0 F0 tp L key z M_X9_test 2 f ∧ CT x S m as A0 F0 tp L key z M_X9_sum 3 f ∧ CT x S m as A0 F0 tp L key z M_X9_term 4 f ∧ CT x S m as A0 F0 tp L key z M_X9_part0 5 f ∧ CL x S m as A0 F0 tp L key z M_X9_either 6 f ∧ CL x S m as A0 F0 tp L key z M_X9_both 7 f ∧ CL x S m as A0 F0 tp L key z M_X9_test 8 f ∧ CL x S m as A0 F0 tp L key z M_X9_sum 9 f ∧ CL x S m as A0 F0 tp L key z M_X9_term 10 f := by
  intro f
  induction f with
  | zero =>
    refine ⟨?_, ?_, ?_, ?_, ?_, ?_, ?_, ?_, ?_, ?_, ?_⟩ <;> (intro d b n s o F Q ht ho hb hn hf; exfalso; unfold fuN at hf; split at hf <;> omega)
  | succ f ih =>
    obtain ⟨e0, e1, e2, e3, e4, e5, l0, l1, l2, l3, l4⟩ := ih
    exact ⟨m_either_E hM hT hL h96 hz e1 l0, m_both_E hM hT hL h96 hz e2 l1, m_test_E hM hT hL h96 hz e3 l2, m_sum_E hM hT hL h96 hz e4 l3, m_term_E hM hT hL h96 hz e5 l4, m_part0_E hM hT hL h96 hz e5 e0, m_either_L hM hT hL h96 hz e1 l0, m_both_L hM hT hL h96 hz e2 l1, m_test_L hM hT hL h96 hz e3, m_sum_L hM hT hL h96 hz e4 l3, m_term_L hM hT hL h96 hz e5 l4⟩
