/-! ===== the class: a World: wearing, falls, Mondays, days ===== -/
theorem VI.up {σ : Nat → Int32} {n : Nat} (h : VI σ n) (hn : n ≤ 10) {k : Nat} (v : Int32) (hk : k < 14 ∨ 54 ≤ k ∨ k % 4 = 1) (h2 : k ≠ 2) : VI (upd σ k v) n :=
  ⟨h.1.up hn v hk, by obtain ⟨s, h1, e⟩ := h.2; exact ⟨s, h1, by rw [pk_un (Ne.symm h2)]; exact e⟩⟩
theorem VI.g2 {σ : Nat → Int32} {n : Nat} (h : VI σ n) (hn : n ≤ 10) {w G : Nat} (hw : w < 10) (hG : G ≤ 999) : VI (upd σ (14 + 4 * w + 2) (nI G)) n :=
  ⟨h.1.g2 hn hw hG, by obtain ⟨s, h1, e⟩ := h.2; exact ⟨s, h1, by rw [pk_un (by omega)]; exact e⟩⟩
theorem ffall_n {σ : Nat → Int32} {n w : Nat} (nt : Nat) (h : WI σ n) (hw : w < n) : ∃ G m : Nat, G ≤ 999 ∧ m ≤ G ∧ σ (14 + 4 * w + 2) = nI G ∧ ffall σ nt w = nI m := by
  obtain ⟨G, hG, eG⟩ := (h w hw).2.2
  obtain ⟨-, m, hm, em⟩ := ffall_c σ nt (σ (14 + 4 * w + 0)) (σ (14 + 4 * w + 1)) (σ (14 + 4 * w + 3)) hG
  refine ⟨G, m, hG, hm, eG, ?_⟩
  unfold ffall; rw [floss_K, eG]; exact em
theorem VI.fall {σ : Nat → Int32} {n w : Nat} (nt : Nat) (h : VI σ n) (hn : n ≤ 10) (hw : w < n) : VI (sFall σ nt w) n := by
  obtain ⟨G, m, hG, hm, eG, em⟩ := ffall_n nt h.1 hw
  unfold sFall; rw [eG, em, nI_sub hm]
  exact h.g2 hn (by omega) (by omega)
theorem VI.wear {σ : Nat → Int32} {n w : Nat} (nt : Nat) (h : VI σ n) (hn : n ≤ 10) (hw : w < n) : VI (wear1 σ nt w) n := by
  obtain ⟨G, hG, eG⟩ := (h.1 w hw).2.2
  obtain ⟨m, hm, -, em⟩ := flossK_n σ nt (σ (14 + 4 * w + 0)) (σ (14 + 4 * w + 1)) (σ (14 + 4 * w + 3)) hG
  unfold wear1; rw [floss_K, eG, em, nI_sub hm]
  exact (h.g2 hn (by omega) (by omega)).up hn _ (by omega) (by omega)
theorem VI.take {σ : Nat → Int32} {n w K : Nat} (h : VI σ n) (hn : n ≤ 10) (hw : w < n) (hK : K < 2 ^ 30) : VI (sTake σ w (nI K)) n ∧ ∃ s t : Nat, s ≤ 99999 ∧ t ≤ 999 ∧ σ 2 = nI s ∧ ftook (σ (14 + 4 * w + 2)) (nI K) = nI t := by
  obtain ⟨G, hG, eG⟩ := (h.1 w hw).2.2
  obtain ⟨s, hs, es⟩ := h.2
  have ek := ftook_n hG hK
  refine ⟨?_, s, min K (999 - G), hs, by omega, es, by rw [eG]; exact ek⟩
  unfold sTake; rw [eG, ek, nI_add]
  have q := h.g2 hn (w := w) (G := G + min K (999 - G)) (by omega) (by omega)
  obtain ⟨-, m, hm, em⟩ := shot_c (t := min K (999 - G)) hs (by omega)
  rw [es, em]
  refine ⟨q.1.up hn _ (by omega), m, hm, pk_us⟩
theorem flaw_n {σ : Nat → Int32} {n w : Nat} (nt : Nat) (h : WI σ n) (hw : w < n) : ∃ l : Nat, l ≤ 999 ∧ flaw σ nt w = nI l := by
  unfold flaw
  split
  · obtain ⟨s, -, hs, es⟩ := (h w hw).2.1
    refine ⟨s - s / 10, by omega, ?_⟩
    rw [es, show (10 : Int32) = nI 10 from rfl, pk_div (by omega) (by decide) (by decide), nI_sub (by omega)]
  · exact hld_n _ (by decide)
theorem neg_999 : ∀ k, k < 1000 → ¬ (0 : Int32) < -(nI k) := by decide +kernel
theorem lack_n {l G : Nat} (hl : l ≤ 999) (hG : G ≤ 999) (h : 0 < nI l - nI G) : nI l - nI G = nI (l - G) := by
  rcases Nat.lt_or_ge l G with q | q
  · refine absurd h ?_
    have e : nI l - nI G = -(nI (G - l)) := by rw [← nI_sub (a := G) (b := l) (by omega), Int32.neg_sub]
    rw [e]; exact neg_999 _ (by omega)
  · exact nI_sub q
theorem monS_VI {σ : Nat → Int32} {n : Nat} (nt : Nat) (h : VI σ n) (hn : n ≤ 10) : ∀ k, k ≤ n → VI (monS σ nt k).1 n
  | 0, _ => h
  | k + 1, hk => by
    have ih := monS_VI nt h hn k (by omega)
    show VI (if 0 < flaw (monS σ nt k).1 nt k - (monS σ nt k).1 (14 + 4 * k + 2) then _ else _ : (Nat → Int32) × Int32).1 n
    split
    · rename_i q
      obtain ⟨l, hl, el⟩ := flaw_n nt ih.1 (w := k) (by omega)
      obtain ⟨G, hG, eG⟩ := (ih.1 k (by omega)).2.2
      rw [el, eG] at q
      show VI (sTake _ _ (flaw (monS σ nt k).1 nt k - (monS σ nt k).1 (14 + 4 * k + 2))) n
      rw [el, eG, lack_n hl hG q]
      exact (ih.take hn (by omega) (by omega)).1
    · exact ih
theorem dayF_VI {σ : Nat → Int32} {n : Nat} (nt : Nat) (h : VI σ n) (hn : n ≤ 10) : ∀ k, k ≤ n → VI (dayF σ nt k).1 n
  | 0, _ => h
  | k + 1, hk => by
    have ih := (dayF_VI nt h hn k (by omega)).up hn (k := 4) (nx ((dayF σ nt k).1 4)) (by omega) (by omega)
    show VI (if rm (dr (nx ((dayF σ nt k).1 4))) 100 < 5 then _ else _ : (Nat → Int32) × Nat).1 n
    split
    · exact ih.fall nt hn (by omega)
    · exact ih
theorem fday_VI {σ : Nat → Int32} {n : Nat} (nt : Nat) (h : VI σ n) (hn : n ≤ 10) : VI (fday σ n nt) n := by
  have q := dayF_VI nt h hn n (Nat.le_refl _)
  unfold fday dayM
  refine VI.up ?_ hn _ (by omega) (by omega)
  split
  · exact monS_VI nt q hn n (Nat.le_refl _)
  · exact q
theorem fds_VI {σ : Nat → Int32} {n : Nat} (nt : Nat) (h : VI σ n) (hn : n ≤ 10) : ∀ k, VI (fds σ n nt k).1 n
  | 0 => h
  | k + 1 => by
    have ih := fds_VI nt h hn k
    show VI (if (fds σ n nt k).1 3 < 9999 then _ else _ : (Nat → Int32) × Nat).1 n
    split
    · exact fday_VI nt ih hn
    · exact ih
theorem wr_VI {σ : Nat → Int32} {n : Nat} (nt : Nat) (set : Int32) (h : VI σ n) (hn : n ≤ 10) : ∀ k, k ≤ n → VI (wr σ nt set k) n
  | 0, _ => h
  | k + 1, hk => by
    have ih := wr_VI nt set h hn k (by omega)
    show VI (if sb set k = 1 then _ else _) n
    split
    · exact ih.wear nt hn (by omega)
    · exact ih
set_option maxRecDepth 100000 in
set_option maxHeartbeats 1000000 in
theorem w_letFall {x : pX} {d : Nat} {S : pS} {Q : Int32 → pS → Prop} {ad : Nat → Nat} {σ : Nat → Int32} (hS : WS S ad) (hW : WR S ad σ) {nt : Nat} (ht : σ 1 = nI nt) (ht14 : nt ≤ 14) (hX : TX S ad σ nt) {a : Nat} (ha : hk S a 6) {G : Nat} (hG : G ≤ 999) (eG : gI S 194 a = nI G) (h : ∀ S2, zfr S S2 → Q (hld (10 * flossK σ nt (gI S 192 a) (gI S 193 a) (gI S 194 a) (gI S 195 a)) (gI S 194 a)) (sI S2 194 a (gI S 194 a - (hld (10 * flossK σ nt (gI S 192 a) (gI S 193 a) (gI S 194 a) (gI S 195 a)) (gI S 194 a))))) : PI x (d + 6) M_X7_letFall [.ref ((ad 0)), .ref a] S Q := by
  refine PM_of (by decide +kernel) (Nat.le_of_ble_eq_true rfl) ?_
  show V x (d + 6) M_X7_letFall (qi Q) (0, 0) 0 [(0, .ref ((ad 0))), (1, .ref a)] [] S
  refine V_aln (pc := 0) dX7_letFall_0 rfl rfl ?_
  refine V_aln (pc := 1) dX7_letFall_1 rfl rfl ?_
  refine V_cVi0 (pc := 2) (jc_X7_165 dX7_letFall_2 rfl) rfl rfl (Nat.le_of_ble_eq_true rfl) (hS.k 0 (by decide) rfl) ?_
  refine w_fallLoss hS hW ht ht14 hX ha hG eG (fun S2 z2 => ?_)
  · refine V_isn (pc := 5) (fun y => [(0, .ref ((ad 0))), (1, .ref a), (2, .int y)]) dX7_letFall_5 rfl (by decide) (fun _ => rfl) (fun y5 ey5 => ?_)
    refine V_aln (pc := 6) dX7_letFall_6 rfl rfl ?_
    refine V_dup (pc := 7) dX7_letFall_7 rfl ?_
    refine V_gie (pc := 8) 6 2 194 dX7_letFall_8 (FL_X7_109 rfl) rfl rfl ((hk_sp z2.1).mpr ha) (by rw [z2.2.1]) ?_
    refine V_iln (pc := 11) dX7_letFall_11 rfl rfl ?_
    refine V_isub (pc := 12) dX7_letFall_12 ?_
    refine V_pi (pc := 13) 6 2 194 dX7_letFall_13 (FL_X7_109 rfl) rfl rfl rfl ((hk_sp z2.1).mpr ha) ?_
    refine V_iln (pc := 16) dX7_letFall_16 rfl rfl ?_
    refine V_iret (pc := 17) dX7_letFall_17 rfl rfl ?_
    subst ey5
    exact h S2 z2
set_option maxRecDepth 100000 in
set_option maxHeartbeats 1000000 in
theorem w_giveShot {x : pX} {d : Nat} {S : pS} {Q : Int32 → pS → Prop} {ad : Nat → Nat} {σ : Nat → Int32} (hS : WS S ad) (hW : WR S ad σ) {a : Nat} (ha : hk S a 6) {k : Int32} (h : Q (ftook (gI S 194 a) k) (sI (sI S 194 a (gI S 194 a + (ftook (gI S 194 a) k))) 228 (ad 0) (if σ 2 + (ftook (gI S 194 a) k) < 99999 then σ 2 + (ftook (gI S 194 a) k) else 99999))) : PI x (d + 2) M_X7_giveShot [.ref ((ad 0)), .ref a, .int k] S Q := by
  refine PM_of (by decide +kernel) (Nat.le_of_ble_eq_true rfl) ?_
  show V x (d + 2) M_X7_giveShot (qi Q) (0, 0) 0 [(0, .ref ((ad 0))), (1, .ref a), (2, .int k)] [] S
  refine V_iln (pc := 0) dX7_giveShot_0 rfl rfl ?_
  refine V_sipush (pc := 1) (v := 999) dX7_giveShot_1 (by decide) ?_
  refine V_aln (pc := 4) dX7_giveShot_4 rfl rfl ?_
  refine V_gie (pc := 5) 6 2 194 dX7_giveShot_5 (FL_X7_109 rfl) rfl rfl ha rfl ?_
  refine V_isub (pc := 8) dX7_giveShot_8 ?_
  refine V_min (pc := 9) (jm_X7_150 dX7_giveShot_9 rfl) (by omega) (Nat.le_of_ble_eq_true rfl) ?_
  refine V_isn (pc := 12) (fun y => [(0, .ref ((ad 0))), (1, .ref a), (2, .int k), (3, .int y)]) dX7_giveShot_12 rfl (by decide) (fun _ => rfl) (fun y12 ey12 => ?_)
  refine V_aln (pc := 13) dX7_giveShot_13 rfl rfl ?_
  refine V_dup (pc := 14) dX7_giveShot_14 rfl ?_
  refine V_gie (pc := 15) 6 2 194 dX7_giveShot_15 (FL_X7_109 rfl) rfl rfl ha rfl ?_
  refine V_iln (pc := 18) dX7_giveShot_18 rfl rfl ?_
  refine V_iadd (pc := 19) dX7_giveShot_19 ?_
  refine V_pi (pc := 20) 6 2 194 dX7_giveShot_20 (FL_X7_109 rfl) rfl rfl rfl ha ?_
  refine V_aln (pc := 23) dX7_giveShot_23 rfl rfl ?_
  refine V_ldc (pc := 24) dX7_giveShot_24 (KC_X7_168 rfl) ?_
  refine V_aln (pc := 26) dX7_giveShot_26 rfl rfl ?_
  refine V_gi (pc := 27) 7 4 228 dX7_giveShot_27 (FL_X7_72 rfl) rfl rfl (hS.k 0 (by decide) rfl) ?_
  refine V_iln (pc := 30) dX7_giveShot_30 rfl rfl ?_
  refine V_iadd (pc := 31) dX7_giveShot_31 ?_
  refine V_min (pc := 32) (jm_X7_150 dX7_giveShot_32 rfl) (by omega) (Nat.le_of_ble_eq_true rfl) ?_
  refine V_pi (pc := 35) 7 4 228 dX7_giveShot_35 (FL_X7_72 rfl) rfl rfl rfl (hS.k 0 (by decide) rfl) ?_
  refine V_iln (pc := 38) dX7_giveShot_38 rfl rfl ?_
  refine V_iret (pc := 39) dX7_giveShot_39 rfl rfl ?_
  rw [ftook_c] at ey12
  subst ey12
  have e : gI (sI S 194 a (gI S 194 a + (ftook (gI S 194 a) k))) 228 (ad 0) = σ 2 := by rw [gI_sI, if_neg (fun q => absurd q.1 (by decide))]; exact hW.1 228 0 2 (by decide)
  rw [e]
  exact h
theorem w_lossAt {x : pX} {d : Nat} {S : pS} {Q : Int32 → pS → Prop} {ad : Nat → Nat} {σ : Nat → Int32} (hS : WS S ad) (hW : WR S ad σ) {nt : Nat} (ht : σ 1 = nI nt) (ht14 : nt ≤ 14) (hX : TX S ad σ nt) {i : Nat} (hi : i < 10) (h : ∀ S2, zfr S S2 → Q (floss σ nt i (σ (14 + 4 * i + 2)) (σ (14 + 4 * i + 3))) S2) : PI x (d + 4) M_X7_weighingLoss [.ref (ad 0), .ref (ad (10 + i))] S Q := by
  have h0 := hW.1 192 (10 + i) (14 + 4 * i + 0) (by unfold cI; omega)
  have h1 := hW.1 193 (10 + i) (14 + 4 * i + 1) (by unfold cI; omega)
  have h2 := hW.1 194 (10 + i) (14 + 4 * i + 2) (by unfold cI; omega)
  have h3 := hW.1 195 (10 + i) (14 + 4 * i + 3) (by unfold cI; omega)
  refine w_weighingLoss hS hW ht ht14 hX (hS.w hi) (fun S2 z2 => ?_)
  rw [h0, h1, h2, h3]
  exact h S2 z2
theorem w_fallLossAt {x : pX} {d : Nat} {S : pS} {Q : Int32 → pS → Prop} {ad : Nat → Nat} {σ : Nat → Int32} (hS : WS S ad) (hW : WR S ad σ) {nt : Nat} (ht : σ 1 = nI nt) (ht14 : nt ≤ 14) (hX : TX S ad σ nt) {i : Nat} (hi : i < 10) {G : Nat} (hG : G ≤ 999) (eG : σ (14 + 4 * i + 2) = nI G) (h : ∀ S2, zfr S S2 → Q (ffall σ nt i) S2) : PI x (d + 5) M_X7_fallLoss [.ref (ad 0), .ref (ad (10 + i))] S Q := by
  have h0 := hW.1 192 (10 + i) (14 + 4 * i + 0) (by unfold cI; omega)
  have h1 := hW.1 193 (10 + i) (14 + 4 * i + 1) (by unfold cI; omega)
  have h2 := hW.1 194 (10 + i) (14 + 4 * i + 2) (by unfold cI; omega)
  have h3 := hW.1 195 (10 + i) (14 + 4 * i + 3) (by unfold cI; omega)
  refine w_fallLoss hS hW ht ht14 hX (hS.w hi) hG (h2.trans eG) (fun S2 z2 => ?_)
  rw [h0, h1, h2, h3]
  exact h S2 z2
theorem w_fineAt {x : pX} {d : Nat} {S : pS} {Q : Int32 → pS → Prop} {ad : Nat → Nat} {σ : Nat → Int32} (hS : WS S ad) (hW : WR S ad σ) {nt : Nat} (ht : σ 1 = nI nt) (ht14 : nt ≤ 14) (hX : TX S ad σ nt) {i : Nat} (hi : i < 10) (h : ∀ S2, zfr S S2 → Q (ffine σ nt i) S2) : PI x (d + 4) M_X7_fineOf [.ref (ad 0), .ref (ad (10 + i))] S Q := by
  have h0 := hW.1 192 (10 + i) (14 + 4 * i + 0) (by unfold cI; omega)
  have h1 := hW.1 193 (10 + i) (14 + 4 * i + 1) (by unfold cI; omega)
  have h2 := hW.1 194 (10 + i) (14 + 4 * i + 2) (by unfold cI; omega)
  have h3 := hW.1 195 (10 + i) (14 + 4 * i + 3) (by unfold cI; omega)
  refine w_fineOf hS hW ht ht14 hX (hS.w hi) (fun S2 z2 => ?_)
  rw [h1, h2, h3]
  exact h S2 z2
theorem w_lawAt {x : pX} {d : Nat} {S : pS} {Q : Int32 → pS → Prop} {ad : Nat → Nat} {σ : Nat → Int32} (hS : WS S ad) (hW : WR S ad σ) {nt : Nat} (ht : σ 1 = nI nt) (ht14 : nt ≤ 14) (hX : TX S ad σ nt) {i : Nat} (hi : i < 10) (h : ∀ S2, zfr S S2 → Q (flaw σ nt i) S2) : PI x (d + 4) M_X7_lawFor [.ref (ad 0), .ref (ad (10 + i))] S Q := by
  have h0 := hW.1 192 (10 + i) (14 + 4 * i + 0) (by unfold cI; omega)
  have h1 := hW.1 193 (10 + i) (14 + 4 * i + 1) (by unfold cI; omega)
  have h2 := hW.1 194 (10 + i) (14 + 4 * i + 2) (by unfold cI; omega)
  have h3 := hW.1 195 (10 + i) (14 + 4 * i + 3) (by unfold cI; omega)
  refine w_lawFor hS hW ht ht14 hX (hS.w hi) (fun S2 z2 => ?_)
  rw [h1]
  exact h S2 z2
theorem w_letFallAt {x : pX} {d : Nat} {S : pS} {Q : Int32 → pS → Prop} {ad : Nat → Nat} {σ : Nat → Int32} (hS : WS S ad) (hW : WR S ad σ) {nt : Nat} (ht : σ 1 = nI nt) (ht14 : nt ≤ 14) (hX : TX S ad σ nt) {i : Nat} (hi : i < 10) {G : Nat} (hG : G ≤ 999) (eG : σ (14 + 4 * i + 2) = nI G) (h : ∀ S2, wfr ad S S2 → WR S2 ad (sFall σ nt i) → Q (ffall σ nt i) S2) : PI x (d + 6) M_X7_letFall [.ref (ad 0), .ref (ad (10 + i))] S Q := by
  have h0 := hW.1 192 (10 + i) (14 + 4 * i + 0) (by unfold cI; omega)
  have h1 := hW.1 193 (10 + i) (14 + 4 * i + 1) (by unfold cI; omega)
  have h2 := hW.1 194 (10 + i) (14 + 4 * i + 2) (by unfold cI; omega)
  have h3 := hW.1 195 (10 + i) (14 + 4 * i + 3) (by unfold cI; omega)
  refine w_letFall hS hW ht ht14 hX (hS.w hi) hG (h2.trans eG) (fun S2 z2 => ?_)
  rw [h0, h1, h2, h3]
  exact h _ ((z2.w ad).I (i := 10 + i) (by unfold wIx; omega) (by omega) (by omega) 194 _) ((hW.z hS z2).I (hS.z z2) (f := 194) (i := 10 + i) (k := 14 + 4 * i + 2) (by unfold cI; omega) _)
theorem w_wearAt {x : pX} {d : Nat} {S : pS} {Q : pS → Prop} {ad : Nat → Nat} {σ : Nat → Int32} (hS : WS S ad) (hW : WR S ad σ) {nt : Nat} (ht : σ 1 = nI nt) (ht14 : nt ≤ 14) (hX : TX S ad σ nt) {i : Nat} (hi : i < 10) (h : ∀ S2, wfr ad S S2 → WR S2 ad (wear1 σ nt i) → Q S2) : PV x (d + 5) M_X7_wearOnce [.ref (ad 0), .ref (ad (10 + i))] S Q := by
  have h0 := hW.1 192 (10 + i) (14 + 4 * i + 0) (by unfold cI; omega)
  have h1 := hW.1 193 (10 + i) (14 + 4 * i + 1) (by unfold cI; omega)
  have h2 := hW.1 194 (10 + i) (14 + 4 * i + 2) (by unfold cI; omega)
  have h3 := hW.1 195 (10 + i) (14 + 4 * i + 3) (by unfold cI; omega)
  refine w_wearOnce hS hW ht ht14 hX (hS.w hi) (fun S2 z2 => ?_)
  rw [h0, h1, h2, h3]
  have hS2 := hS.z z2
  exact h _ (((z2.w ad).I (i := 10 + i) (by unfold wIx; omega) (by omega) (by omega) 194 _).I (i := 10 + i) (by unfold wIx; omega) (by omega) (by omega) 195 _) (((hW.z hS z2).I hS2 (f := 194) (i := 10 + i) (k := 14 + 4 * i + 2) (by unfold cI; omega) _).I hS2 (f := 195) (i := 10 + i) (k := 14 + 4 * i + 3) (by unfold cI; omega) _)
theorem w_giveShotAt {x : pX} {d : Nat} {S : pS} {Q : Int32 → pS → Prop} {ad : Nat → Nat} {σ : Nat → Int32} (hS : WS S ad) (hW : WR S ad σ) {i n K : Nat} (hi : i < n) (hn10 : n ≤ 10) (hV : VI σ n) (hK : K < 2 ^ 30) (h : ∀ S2, wfr ad S S2 → WR S2 ad (sTake σ i (nI K)) → Q (ftook (σ (14 + 4 * i + 2)) (nI K)) S2) : PI x (d + 2) M_X7_giveShot [.ref (ad 0), .ref (ad (10 + i)), .int (nI K)] S Q := by
  have h2 := hW.1 194 (10 + i) (14 + 4 * i + 2) (by unfold cI; omega)
  obtain ⟨-, s, t, hs, ht, es, et⟩ := hV.take hn10 hi hK
  refine w_giveShot hS hW (hS.w (by omega)) ?_
  rw [h2]
  have e : (if σ 2 + ftook (σ (14 + 4 * i + 2)) (nI K) < 99999 then σ 2 + ftook (σ (14 + 4 * i + 2)) (nI K) else 99999) = hld (σ 2 + ftook (σ (14 + 4 * i + 2)) (nI K)) 99999 := by rw [es, et]; exact (shot_c hs ht).1
  rw [e]
  exact h _ ((wfr.rf.I (i := 10 + i) (by unfold wIx; omega) (by omega) (by omega) 194 _).I (i := 0) (by decide) (by decide) (by decide) 228 _) ((hW.I hS (f := 194) (i := 10 + i) (k := 14 + 4 * i + 2) (by unfold cI; omega) _).I hS (f := 228) (i := 0) (k := 2) (by decide) _)
set_option maxRecDepth 100000 in
set_option maxHeartbeats 1000000 in
theorem w_wearAll_L {x : pX} {d : Nat} {b : Nat × Nat} {Q : pS → Prop} {S0 : pS} {ad : Nat → Nat} {σ : Nat → Int32} {n nt : Nat} (hn : σ 0 = nI n) (hn10 : n ≤ 10) (ht : σ 1 = nI nt) (ht14 : nt ≤ 14) {set : Int32} (h : ∀ S2, wfr ad S0 S2 → WR S2 ad (wr σ nt set n) → Q S2) : ∀ (c k : Nat), k + c = n → ∀ (S : pS), wfr ad S0 S → WS S ad → WR S ad (wr σ nt set k) → TX S ad (wr σ nt set k) nt → V x (d + 6) M_X7_wearAll (qv Q) b 2 [(0, .ref ((ad 0))), (1, .int set), (2, .int (nI k))] [] S := by
  intro c
  induction c with
  | zero =>
    intro k hk S hF hS hW hX
    have mk0 := wr_mk σ nt set k (by omega)
    have e0 := (mk0 0 (by omega)).trans hn
    have et := (mk0 1 (by omega)).trans ht
    refine V_iln (pc := 2) dX7_wearAll_2 rfl rfl ?_
    refine V_aln (pc := 3) dX7_wearAll_3 rfl rfl ?_
    refine V_gie (pc := 4) 7 1 225 dX7_wearAll_4 (FL_X7_56 rfl) rfl rfl (hS.k 0 (by decide) rfl) (hW.1 225 0 0 (by decide)) ?_
    refine V_cge (pc := 7) (t := 34) dX7_wearAll_7 (by decide) (fun h7 => ?_) (fun h7 => ?_)
    · refine V_ret (pc := 34) dX7_wearAll_34 rfl ?_
      obtain rfl : k = n := by omega
      exact h S hF hW
    · exact absurd (by rw [e0]; exact nI_le (by omega) (by omega)) h7
  | succ c ih =>
    intro k hk S hF hS hW hX
    have mk0 := wr_mk σ nt set k (by omega)
    have e0 := (mk0 0 (by omega)).trans hn
    have et := (mk0 1 (by omega)).trans ht
    refine V_iln (pc := 2) dX7_wearAll_2 rfl rfl ?_
    refine V_aln (pc := 3) dX7_wearAll_3 rfl rfl ?_
    refine V_gie (pc := 4) 7 1 225 dX7_wearAll_4 (FL_X7_56 rfl) rfl rfl (hS.k 0 (by decide) rfl) (hW.1 225 0 0 (by decide)) ?_
    refine V_cge (pc := 7) (t := 34) dX7_wearAll_7 (by decide) (fun h7 => ?_) (fun h7 => ?_)
    · exact absurd h7 (by rw [e0]; exact nI_ge (by omega) (by omega))
    · refine V_iln (pc := 10) dX7_wearAll_10 rfl rfl ?_
      refine V_iln (pc := 11) dX7_wearAll_11 rfl rfl ?_
      refine V_ishr (pc := 12) dX7_wearAll_12 ?_
      refine V_iconst (pc := 13) (v := 1) dX7_wearAll_13 (by decide) ?_
      refine V_iand (pc := 14) dX7_wearAll_14 ?_
      refine V_eq (pc := 15) (t := 28) dX7_wearAll_15 (by decide) (fun h15 => ?_) (fun h15 => ?_)
      · have e1 : wr σ nt set (k + 1) = wr σ nt set k := by show (if sb set k = 1 then _ else _) = _; rw [if_neg (fun q : sb set k = 1 => absurd (q.symm.trans h15) (by decide))]
        refine V_inc (pc := 28) (fun y => [(0, .ref ((ad 0))), (1, .int set), (2, .int y)]) (w := 1) dX7_wearAll_28 (by decide) (by decide) rfl (fun _ => rfl) (fun y28 ey28 => ?_)
        obtain rfl : y28 = nI (k + 1) := by rw [ey28]; exact nI_1 _
        refine V_goto (pc := 31) (t := 2) dX7_wearAll_31 (by decide) ?_
        exact ih (k + 1) (by omega) S hF hS (by rw [e1]; exact hW) (by rw [e1]; exact hX)
      · have q1 : sb set k = 1 := (and_one (set >>> (nI k &&& 31))).resolve_left h15
        have e1 : wr σ nt set (k + 1) = wear1 (wr σ nt set k) nt k := by show (if sb set k = 1 then _ else _) = _; rw [if_pos q1]
        refine V_aln (pc := 18) dX7_wearAll_18 rfl rfl ?_
        refine V_aln (pc := 19) dX7_wearAll_19 rfl rfl ?_
        refine V_gr (pc := 20) 7 0 224 dX7_wearAll_20 (FL_X7_11 rfl) rfl rfl (hS.k 0 (by decide) rfl) hS.2.2.1.1 ?_
        refine V_iln (pc := 23) dX7_wearAll_23 rfl rfl ?_
        refine V_aa (pc := 24) (N := 10) 14 k dX7_wearAll_24 (by decide) (by decide) (hS.k 1 (by decide) rfl) (hS.2.1 1 (by decide)) (by decide) rfl (by show (_ : Nat) < 10; omega) (hS.2.2.2.1 k (by omega)) ?_
        refine V_cVv0 (pc := 25) (jc_X7_162 dX7_wearAll_25 rfl) rfl rfl (Nat.le_of_ble_eq_true rfl) (hS.k 0 (by decide) rfl) ?_
        refine w_wearAt hS hW et ht14 hX (by omega) (fun S2 f2 hW2 => ?_)
        refine V_inc (pc := 28) (fun y => [(0, .ref ((ad 0))), (1, .int set), (2, .int y)]) (w := 1) dX7_wearAll_28 (by decide) (by decide) rfl (fun _ => rfl) (fun y28 ey28 => ?_)
        obtain rfl : y28 = nI (k + 1) := by rw [ey28]; exact nI_1 _
        refine V_goto (pc := 31) (t := 2) dX7_wearAll_31 (by decide) ?_
        exact ih (k + 1) (by omega) S2 (hF.tr f2) (hS.f f2) (by rw [e1]; exact hW2) (by rw [e1]; exact hX.w hS f2 ((tl.rf.up (by omega) _).up (by omega) _))
set_option maxRecDepth 100000 in
set_option maxHeartbeats 1000000 in
theorem w_wearAll {x : pX} {d : Nat} {S : pS} {Q : pS → Prop} {ad : Nat → Nat} {σ : Nat → Int32} (hS : WS S ad) (hW : WR S ad σ) {n : Nat} (hn : σ 0 = nI n) (hn10 : n ≤ 10) {nt : Nat} (ht : σ 1 = nI nt) (ht14 : nt ≤ 14) (hX : TX S ad σ nt) {set : Int32} (h : ∀ S2, wfr ad S S2 → WR S2 ad (wr σ nt set n) → Q S2) : PV x (d + 6) M_X7_wearAll [.ref ((ad 0)), .int set] S Q := by
  refine PM_of (by decide +kernel) (Nat.le_of_ble_eq_true rfl) ?_
  show V x (d + 6) M_X7_wearAll (qv Q) (0, 0) 0 [(0, .ref ((ad 0))), (1, .int set)] [] S
  refine V_iconst (pc := 0) (v := 0) dX7_wearAll_0 (by decide) ?_
  refine V_isn (pc := 1) (fun y => [(0, .ref ((ad 0))), (1, .int set), (2, .int y)]) dX7_wearAll_1 rfl (by decide) (fun _ => rfl) (fun y1 ey1 => ?_)
  obtain rfl : y1 = nI 0 := ey1
  exact w_wearAll_L hn hn10 ht ht14 h n 0 (by omega) S wfr.rf hS hW hX
set_option maxRecDepth 100000 in
set_option maxHeartbeats 1000000 in
theorem w_makeRight_L {x : pX} {d : Nat} {b : Nat × Nat} {Q : Int32 → pS → Prop} {S0 : pS} {ad : Nat → Nat} {σ : Nat → Int32} {n nt : Nat} (hn : σ 0 = nI n) (hn10 : n ≤ 10) (ht : σ 1 = nI nt) (ht14 : nt ≤ 14) (hV : VI σ n) (h : ∀ S2, wfr ad S0 S2 → WR S2 ad (monS σ nt n).1 → Q (monS σ nt n).2 S2) : ∀ (c k : Nat), k + c = n → ∀ (S : pS), wfr ad S0 S → WS S ad → WR S ad ((monS σ nt k).1) → TX S ad ((monS σ nt k).1) nt → V x (d + 5) M_X7_makeRight (qi Q) b 4 [(0, .ref ((ad 0))), (1, .int ((monS σ nt k).2)), (2, .int (nI k))] [] S := by
  intro c
  induction c with
  | zero =>
    intro k hk S hF hS hW hX
    have mk0 := monS_mk σ nt k (by omega)
    have e0 := (mk0 0 (by omega)).trans hn
    have et := (mk0 1 (by omega)).trans ht
    refine V_iln (pc := 4) dX7_makeRight_4 rfl rfl ?_
    refine V_aln (pc := 5) dX7_makeRight_5 rfl rfl ?_
    refine V_gie (pc := 6) 7 1 225 dX7_makeRight_6 (FL_X7_56 rfl) rfl rfl (hS.k 0 (by decide) rfl) (hW.1 225 0 0 (by decide)) ?_
    refine V_cge (pc := 9) (t := 57) dX7_makeRight_9 (by decide) (fun h9 => ?_) (fun h9 => ?_)
    · refine V_iln (pc := 57) dX7_makeRight_57 rfl rfl ?_
      refine V_iret (pc := 58) dX7_makeRight_58 rfl rfl ?_
      obtain rfl : k = n := by omega
      exact h S hF hW
    · exact absurd (by rw [e0]; exact nI_le (by omega) (by omega)) h9
  | succ c ih =>
    intro k hk S hF hS hW hX
    have mk0 := monS_mk σ nt k (by omega)
    have e0 := (mk0 0 (by omega)).trans hn
    have et := (mk0 1 (by omega)).trans ht
    have iV := monS_VI nt hV hn10 k (by omega)
    refine V_iln (pc := 4) dX7_makeRight_4 rfl rfl ?_
    refine V_aln (pc := 5) dX7_makeRight_5 rfl rfl ?_
    refine V_gie (pc := 6) 7 1 225 dX7_makeRight_6 (FL_X7_56 rfl) rfl rfl (hS.k 0 (by decide) rfl) (hW.1 225 0 0 (by decide)) ?_
    refine V_cge (pc := 9) (t := 57) dX7_makeRight_9 (by decide) (fun h9 => ?_) (fun h9 => ?_)
    · exact absurd h9 (by rw [e0]; exact nI_ge (by omega) (by omega))
    · refine V_aln (pc := 12) dX7_makeRight_12 rfl rfl ?_
      refine V_aln (pc := 13) dX7_makeRight_13 rfl rfl ?_
      refine V_gr (pc := 14) 7 0 224 dX7_makeRight_14 (FL_X7_11 rfl) rfl rfl (hS.k 0 (by decide) rfl) hS.2.2.1.1 ?_
      refine V_iln (pc := 17) dX7_makeRight_17 rfl rfl ?_
      refine V_aa (pc := 18) (N := 10) 14 k dX7_makeRight_18 (by decide) (by decide) (hS.k 1 (by decide) rfl) (hS.2.1 1 (by decide)) (by decide) rfl (by show (_ : Nat) < 10; omega) (hS.2.2.2.1 k (by omega)) ?_
      refine V_cVi0 (pc := 19) (jc_X7_169 dX7_makeRight_19 rfl) rfl rfl (Nat.le_of_ble_eq_true rfl) (hS.k 0 (by decide) rfl) ?_
      refine w_lawAt hS hW et ht14 hX (by omega) (fun S1 z1 => ?_)
      · have hS1 := hS.z z1
        have hW1 := hW.z hS z1
        refine V_aln (pc := 22) dX7_makeRight_22 rfl rfl ?_
        refine V_gr (pc := 23) 7 0 224 dX7_makeRight_23 (FL_X7_11 rfl) rfl rfl (hS1.k 0 (by decide) rfl) hS1.2.2.1.1 ?_
        refine V_iln (pc := 26) dX7_makeRight_26 rfl rfl ?_
        refine V_aa (pc := 27) (N := 10) 14 k dX7_makeRight_27 (by decide) (by decide) (hS1.k 1 (by decide) rfl) (hS1.2.1 1 (by decide)) (by decide) rfl (by show (_ : Nat) < 10; omega) (hS1.2.2.2.1 k (by omega)) ?_
        refine V_gie (pc := 28) 6 2 194 dX7_makeRight_28 (FL_X7_109 rfl) rfl rfl (hS1.w (by omega)) (hW1.1 194 (10 + k) (14 + 4 * k + 2) (by unfold cI; omega)) ?_
        refine V_isub (pc := 31) dX7_makeRight_31 ?_
        refine V_isn (pc := 32) (fun y => [(0, .ref ((ad 0))), (1, .int ((monS σ nt k).2)), (2, .int (nI k)), (3, .int y)]) dX7_makeRight_32 rfl (by decide) (fun _ => rfl) (fun y32 ey32 => ?_)
        refine V_iln (pc := 33) dX7_makeRight_33 rfl rfl ?_
        refine V_le (pc := 34) (t := 51) dX7_makeRight_34 (by decide) (fun h34 => ?_) (fun h34 => ?_)
        · rw [ey32] at h34
          have e1 : monS σ nt (k + 1) = monS σ nt k := by show (if 0 < (flaw (monS σ nt k).1 nt k - (monS σ nt k).1 (14 + 4 * k + 2)) then _ else _) = _; rw [if_neg (Int32.not_lt.mpr h34)]
          refine V_inc (pc := 51) (fun y => [(0, .ref ((ad 0))), (1, .int ((monS σ nt k).2)), (2, .int y), (3, .int y32)]) (w := 1) dX7_makeRight_51 (by decide) (by decide) rfl (fun _ => rfl) (fun y51 ey51 => ?_)
          obtain rfl : y51 = nI (k + 1) := by rw [ey51]; exact nI_1 _
          refine V_goto (pc := 54) (t := 4) dX7_makeRight_54 (by decide) ?_
          refine V_lp [0, 1, 2] (ls' := [(0, .ref ((ad 0))), (1, .int ((monS σ nt k).2)), (2, .int (nI (k + 1)))]) rfl ?_
          have q := ih (k + 1) (by omega) S1 (hF.tr (z1.w ad)) hS1 (by rw [e1]; exact hW1) (by rw [e1]; exact hX.z hS z1)
          rw [e1] at q
          exact q
        · have h34 := Int32.not_le.mp h34
          obtain ⟨l, hl, el⟩ := flaw_n nt iV.1 (w := k) (by omega)
          obtain ⟨G, hG, eG⟩ := (iV.1 k (by omega)).2.2
          rw [ey32] at h34
          have eK : (flaw (monS σ nt k).1 nt k - (monS σ nt k).1 (14 + 4 * k + 2)) = nI (l - G) := by rw [el, eG] at h34 ⊢; exact lack_n hl hG h34
          have e1 : monS σ nt (k + 1) = (sTake (monS σ nt k).1 k (nI (l - G)), (monS σ nt k).2 + ftook ((monS σ nt k).1 (14 + 4 * k + 2)) (nI (l - G))) := by show (if 0 < (flaw (monS σ nt k).1 nt k - (monS σ nt k).1 (14 + 4 * k + 2)) then _ else _) = _; rw [if_pos h34, eK]
          rw [eK] at ey32
          subst ey32
          refine V_iln (pc := 37) dX7_makeRight_37 rfl rfl ?_
          refine V_aln (pc := 38) dX7_makeRight_38 rfl rfl ?_
          refine V_aln (pc := 39) dX7_makeRight_39 rfl rfl ?_
          refine V_gr (pc := 40) 7 0 224 dX7_makeRight_40 (FL_X7_11 rfl) rfl rfl (hS1.k 0 (by decide) rfl) hS1.2.2.1.1 ?_
          refine V_iln (pc := 43) dX7_makeRight_43 rfl rfl ?_
          refine V_aa (pc := 44) (N := 10) 14 k dX7_makeRight_44 (by decide) (by decide) (hS1.k 1 (by decide) rfl) (hS1.2.1 1 (by decide)) (by decide) rfl (by show (_ : Nat) < 10; omega) (hS1.2.2.2.1 k (by omega)) ?_
          refine V_iln (pc := 45) dX7_makeRight_45 rfl rfl ?_
          refine V_cVi0 (pc := 46) (jc_X7_172 dX7_makeRight_46 rfl) rfl rfl (Nat.le_of_ble_eq_true rfl) (hS1.k 0 (by decide) rfl) ?_
          refine w_giveShotAt hS1 hW1 (n := n) (by omega) hn10 iV (by omega) (fun S2 f2 hW2 => ?_)
          refine V_iadd (pc := 49) dX7_makeRight_49 ?_
          refine V_isn (pc := 50) (fun y => [(0, .ref ((ad 0))), (1, .int y), (2, .int (nI k)), (3, .int (nI ((l - G))))]) dX7_makeRight_50 rfl (by decide) (fun _ => rfl) (fun y50 ey50 => ?_)
          obtain rfl : y50 = (monS σ nt (k + 1)).2 := by rw [ey50]; rw [e1]
          refine V_inc (pc := 51) (fun y => [(0, .ref ((ad 0))), (1, .int ((monS σ nt (k + 1)).2)), (2, .int y), (3, .int (nI ((l - G))))]) (w := 1) dX7_makeRight_51 (by decide) (by decide) rfl (fun _ => rfl) (fun y51 ey51 => ?_)
          obtain rfl : y51 = nI (k + 1) := by rw [ey51]; exact nI_1 _
          refine V_goto (pc := 54) (t := 4) dX7_makeRight_54 (by decide) ?_
          refine V_lp [0, 1, 2] (ls' := [(0, .ref ((ad 0))), (1, .int ((monS σ nt (k + 1)).2)), (2, .int (nI (k + 1)))]) rfl ?_
          exact ih (k + 1) (by omega) S2 ((hF.tr (z1.w ad)).tr f2) (hS1.f f2) (by rw [e1]; exact hW2) (by rw [e1]; exact (hX.z hS z1).w hS1 f2 ((tl.rf.up (by omega) _).up (by omega) _))
set_option maxRecDepth 100000 in
set_option maxHeartbeats 1000000 in
theorem w_makeRight {x : pX} {d : Nat} {S : pS} {Q : Int32 → pS → Prop} {ad : Nat → Nat} {σ : Nat → Int32} (hS : WS S ad) (hW : WR S ad σ) {n : Nat} (hn : σ 0 = nI n) (hn10 : n ≤ 10) {nt : Nat} (ht : σ 1 = nI nt) (ht14 : nt ≤ 14) (hX : TX S ad σ nt) (hV : VI σ n) (h : ∀ S2, wfr ad S S2 → WR S2 ad (monS σ nt n).1 → Q (monS σ nt n).2 S2) : PI x (d + 5) M_X7_makeRight [.ref ((ad 0))] S Q := by
  refine PM_of (by decide +kernel) (Nat.le_of_ble_eq_true rfl) ?_
  show V x (d + 5) M_X7_makeRight (qi Q) (0, 0) 0 [(0, .ref ((ad 0)))] [] S
  refine V_iconst (pc := 0) (v := 0) dX7_makeRight_0 (by decide) ?_
  refine V_isn (pc := 1) (fun y => [(0, .ref ((ad 0))), (1, .int y)]) dX7_makeRight_1 rfl (by decide) (fun _ => rfl) (fun y1 ey1 => ?_)
  refine V_iconst (pc := 2) (v := 0) dX7_makeRight_2 (by decide) ?_
  refine V_isn (pc := 3) (fun y => [(0, .ref ((ad 0))), (1, .int y1), (2, .int y)]) dX7_makeRight_3 rfl (by decide) (fun _ => rfl) (fun y3 ey3 => ?_)
  obtain rfl : y3 = nI 0 := ey3
  subst ey1
  exact w_makeRight_L hn hn10 ht ht14 hV h n 0 (by omega) S wfr.rf hS hW hX
set_option maxRecDepth 100000 in
set_option maxHeartbeats 1000000 in
theorem w_passDay_L {x : pX} {d : Nat} {b : Nat × Nat} {Q : Int32 → pS → Prop} {S0 : pS} {ad : Nat → Nat} {σ : Nat → Int32} {n nt : Nat} (hn : σ 0 = nI n) (hn10 : n ≤ 10) (ht : σ 1 = nI nt) (ht14 : nt ≤ 14) (hV : VI σ n) (kk : ∀ S2, wfr ad S0 S2 → WR S2 ad (dayF σ nt n).1 → V x (d + 7) M_X7_passDay (qi Q) b 43 [(0, .ref ((ad 0))), (1, .int (nI ((dayF σ nt n).2))), (2, .int (nI n))] [] S2) : ∀ (c k : Nat), k + c = n → ∀ (S : pS), wfr ad S0 S → WS S ad → WR S ad ((dayF σ nt k).1) → TX S ad ((dayF σ nt k).1) nt → V x (d + 7) M_X7_passDay (qi Q) b 4 [(0, .ref ((ad 0))), (1, .int (nI ((dayF σ nt k).2))), (2, .int (nI k))] [] S := by
  intro c
  induction c with
  | zero =>
    intro k hk S hF hS hW hX
    have mk0 := dayF_mk σ nt k (by omega)
    have e0 := (mk0 0 (by omega)).trans hn
    have et := (mk0 1 (by omega)).trans ht
    refine V_iln (pc := 4) dX7_passDay_4 rfl rfl ?_
    refine V_aln (pc := 5) dX7_passDay_5 rfl rfl ?_
    refine V_gie (pc := 6) 7 1 225 dX7_passDay_6 (FL_X7_56 rfl) rfl rfl (hS.k 0 (by decide) rfl) (hW.1 225 0 0 (by decide)) ?_
    refine V_cge (pc := 9) (t := 43) dX7_passDay_9 (by decide) (fun h9 => ?_) (fun h9 => ?_)
    · obtain rfl : k = n := by omega
      exact kk S hF hW
    · exact absurd (by rw [e0]; exact nI_le (by omega) (by omega)) h9
  | succ c ih =>
    intro k hk S hF hS hW hX
    have mk0 := dayF_mk σ nt k (by omega)
    have e0 := (mk0 0 (by omega)).trans hn
    have et := (mk0 1 (by omega)).trans ht
    refine V_iln (pc := 4) dX7_passDay_4 rfl rfl ?_
    refine V_aln (pc := 5) dX7_passDay_5 rfl rfl ?_
    refine V_gie (pc := 6) 7 1 225 dX7_passDay_6 (FL_X7_56 rfl) rfl rfl (hS.k 0 (by decide) rfl) (hW.1 225 0 0 (by decide)) ?_
    refine V_cge (pc := 9) (t := 43) dX7_passDay_9 (by decide) (fun h9 => ?_) (fun h9 => ?_)
    · exact absurd h9 (by rw [e0]; exact nI_ge (by omega) (by omega))
    · refine V_aln (pc := 12) dX7_passDay_12 rfl rfl ?_
      refine V_cVi0 (pc := 13) (jc_X7_91 dX7_passDay_13 rfl) rfl rfl (Nat.le_of_ble_eq_true rfl) (hS.k 0 (by decide) rfl) ?_
      refine w_draw hS hW (fun S1 f1 hW1 => ?_)
      · have hS1 := hS.f f1
        have hX1 := hX.w hS f1 (tl.rf.up (k := 4) (by omega) (nx ((dayF σ nt k).1 4)))
        have iV := (dayF_VI nt hV hn10 k (by omega)).up hn10 (k := 4) (nx ((dayF σ nt k).1 4)) (by omega) (by omega)
        refine V_bipush (pc := 16) (v := 100) dX7_passDay_16 (by decide) ?_
        refine V_irem (pc := 18) dX7_passDay_18 (by decide) ?_
        refine V_iconst (pc := 19) (v := 5) dX7_passDay_19 (by decide) ?_
        refine V_cge (pc := 20) (t := 37) dX7_passDay_20 (by decide) (fun h20 => ?_) (fun h20 => ?_)
        · have e1 : dayF σ nt (k + 1) = (upd (dayF σ nt k).1 4 (nx ((dayF σ nt k).1 4)), (dayF σ nt k).2) := by show (if rm (dr (nx ((dayF σ nt k).1 4))) 100 < 5 then _ else _) = _; rw [if_neg (show ¬ rm (dr (nx ((dayF σ nt k).1 4))) 100 < 5 from Int32.not_lt.mpr h20)]
          refine V_inc (pc := 37) (fun y => [(0, .ref ((ad 0))), (1, .int (nI ((dayF σ nt k).2))), (2, .int y)]) (w := 1) dX7_passDay_37 (by decide) (by decide) rfl (fun _ => rfl) (fun y37 ey37 => ?_)
          obtain rfl : y37 = nI (k + 1) := by rw [ey37]; exact nI_1 _
          refine V_goto (pc := 40) (t := 4) dX7_passDay_40 (by decide) ?_
          have q := ih (k + 1) (by omega) S1 (hF.tr f1) hS1 (by rw [e1]; exact hW1) (by rw [e1]; exact hX1)
          rw [e1] at q
          exact q
        · have e1 : dayF σ nt (k + 1) = (sFall (upd (dayF σ nt k).1 4 (nx ((dayF σ nt k).1 4))) nt k, (dayF σ nt k).2 + 1) := by show (if rm (dr (nx ((dayF σ nt k).1 4))) 100 < 5 then _ else _) = _; rw [if_pos (show rm (dr (nx ((dayF σ nt k).1 4))) 100 < 5 from Int32.not_le.mp h20)]
          refine V_aln (pc := 23) dX7_passDay_23 rfl rfl ?_
          refine V_aln (pc := 24) dX7_passDay_24 rfl rfl ?_
          refine V_gr (pc := 25) 7 0 224 dX7_passDay_25 (FL_X7_11 rfl) rfl rfl (hS1.k 0 (by decide) rfl) hS1.2.2.1.1 ?_
          refine V_iln (pc := 28) dX7_passDay_28 rfl rfl ?_
          refine V_aa (pc := 29) (N := 10) 14 k dX7_passDay_29 (by decide) (by decide) (hS1.k 1 (by decide) rfl) (hS1.2.1 1 (by decide)) (by decide) rfl (by show (_ : Nat) < 10; omega) (hS1.2.2.2.1 k (by omega)) ?_
          refine V_cVi0 (pc := 30) (jc_X7_176 dX7_passDay_30 rfl) rfl rfl (Nat.le_of_ble_eq_true rfl) (hS1.k 0 (by decide) rfl) ?_
          obtain ⟨G, hG, eG⟩ := (iV.1 k (by omega)).2.2
          refine w_letFallAt hS1 hW1 (by rw [pk_un (by omega)]; exact et) ht14 hX1 (by omega) hG eG (fun S2 f2 hW2 => ?_)
          refine V_pop (pc := 33) dX7_passDay_33 rfl ?_
          refine V_inc (pc := 34) (fun y => [(0, .ref ((ad 0))), (1, .int y), (2, .int (nI k))]) (w := 1) dX7_passDay_34 (by decide) (by decide) rfl (fun _ => rfl) (fun y34 ey34 => ?_)
          obtain rfl : y34 = nI (((dayF σ nt k).2) + 1) := by rw [ey34]; exact nI_1 _
          refine V_inc (pc := 37) (fun y => [(0, .ref ((ad 0))), (1, .int (nI (((dayF σ nt k).2) + 1))), (2, .int y)]) (w := 1) dX7_passDay_37 (by decide) (by decide) rfl (fun _ => rfl) (fun y37 ey37 => ?_)
          obtain rfl : y37 = nI (k + 1) := by rw [ey37]; exact nI_1 _
          refine V_goto (pc := 40) (t := 4) dX7_passDay_40 (by decide) ?_
          have q := ih (k + 1) (by omega) S2 ((hF.tr f1).tr f2) (hS1.f f2) (by rw [e1]; exact hW2) (by rw [e1]; exact hX1.w hS1 f2 (tl.rf.up (by omega) _))
          rw [e1] at q
          exact q
set_option maxRecDepth 100000 in
set_option maxHeartbeats 1000000 in
theorem w_passDay {x : pX} {d : Nat} {S : pS} {Q : Int32 → pS → Prop} {ad : Nat → Nat} {σ : Nat → Int32} (hS : WS S ad) (hW : WR S ad σ) {n : Nat} (hn : σ 0 = nI n) (hn10 : n ≤ 10) {nt : Nat} (ht : σ 1 = nI nt) (ht14 : nt ≤ 14) (hX : TX S ad σ nt) (hV : VI σ n) (h : ∀ S2, wfr ad S S2 → WR S2 ad (fday σ n nt) → Q (nI (dayF σ nt n).2) S2) : PI x (d + 7) M_X7_passDay [.ref ((ad 0))] S Q := by
  refine PM_of (by decide +kernel) (Nat.le_of_ble_eq_true rfl) ?_
  show V x (d + 7) M_X7_passDay (qi Q) (0, 0) 0 [(0, .ref ((ad 0)))] [] S
  refine V_iconst (pc := 0) (v := 0) dX7_passDay_0 (by decide) ?_
  refine V_isn (pc := 1) (fun y => [(0, .ref ((ad 0))), (1, .int y)]) dX7_passDay_1 rfl (by decide) (fun _ => rfl) (fun y1 ey1 => ?_)
  obtain rfl : y1 = nI 0 := ey1
  refine V_iconst (pc := 2) (v := 0) dX7_passDay_2 (by decide) ?_
  refine V_isn (pc := 3) (fun y => [(0, .ref ((ad 0))), (1, .int (nI 0)), (2, .int y)]) dX7_passDay_3 rfl (by decide) (fun _ => rfl) (fun y3 ey3 => ?_)
  obtain rfl : y3 = nI 0 := ey3
  refine w_passDay_L hn hn10 ht ht14 hV (fun S1 f1 hW1 => ?_) n 0 (by omega) S wfr.rf hS hW hX
  have hS1 := hS.f f1
  have mk0 := dayF_mk σ nt n hn10
  have e0 := (mk0 0 (by omega)).trans hn
  have et := (mk0 1 (by omega)).trans ht
  have iV := dayF_VI nt hV hn10 n (Nat.le_refl _)
  have hX1 := hX.w hS f1 (fun k hk => mk0 k (by omega))
  refine V_aln (pc := 43) dX7_passDay_43 rfl rfl ?_
  refine V_gie (pc := 44) 7 5 229 dX7_passDay_44 (FL_X7_75 rfl) rfl rfl (hS1.k 0 (by decide) rfl) (hW1.1 229 0 3 (by decide)) ?_
  refine V_bipush (pc := 47) (v := 7) dX7_passDay_47 (by decide) ?_
  refine V_irem (pc := 49) dX7_passDay_49 (by decide) ?_
  refine V_ne (pc := 50) (t := 58) dX7_passDay_50 (by decide) (fun h50 => ?_) (fun h50 => ?_)
  · have e1 : dayM σ n nt = (dayF σ nt n).1 := by unfold dayM; rw [if_neg (show ¬ rm ((dayF σ nt n).1 3) 7 = 0 from h50)]
    refine V_aln (pc := 58) dX7_passDay_58 rfl rfl ?_
    refine V_dup (pc := 59) dX7_passDay_59 rfl ?_
    refine V_gie (pc := 60) 7 5 229 dX7_passDay_60 (FL_X7_75 rfl) rfl rfl (hS1.k 0 (by decide) rfl) (hW1.1 229 0 3 (by decide)) ?_
    refine V_iconst (pc := 63) (v := 1) dX7_passDay_63 (by decide) ?_
    refine V_iadd (pc := 64) dX7_passDay_64 ?_
    refine V_pi (pc := 65) 7 5 229 dX7_passDay_65 (FL_X7_75 rfl) rfl rfl rfl (hS1.k 0 (by decide) rfl) ?_
    have hW65 := hW1.I hS1 (f := 229) (i := 0) (k := 3) (by unfold cI; omega) (((((dayF σ nt n).1) 3) + 1))
    have hF65 := f1.I (i := 0) (by unfold wIx; omega) (by omega) (by omega) 229 (((((dayF σ nt n).1) 3) + 1))
    refine V_iln (pc := 68) dX7_passDay_68 rfl rfl ?_
    refine V_iret (pc := 69) dX7_passDay_69 rfl rfl ?_
    refine h _ hF65 ?_
    unfold fday; rw [e1]; exact hW65
  · have e1 : dayM σ n nt = (monS (dayF σ nt n).1 nt n).1 := by unfold dayM; rw [if_pos (show rm ((dayF σ nt n).1 3) 7 = 0 from h50)]
    refine V_aln (pc := 53) dX7_passDay_53 rfl rfl ?_
    refine V_cVi0 (pc := 54) (jc_X7_179 dX7_passDay_54 rfl) rfl rfl (Nat.le_of_ble_eq_true rfl) (hS1.k 0 (by decide) rfl) ?_
    refine w_makeRight hS1 hW1 e0 hn10 et ht14 hX1 iV (fun S2 f2 hW2 => ?_)
    · refine V_pop (pc := 57) dX7_passDay_57 rfl ?_
      refine V_aln (pc := 58) dX7_passDay_58 rfl rfl ?_
      refine V_dup (pc := 59) dX7_passDay_59 rfl ?_
      refine V_gie (pc := 60) 7 5 229 dX7_passDay_60 (FL_X7_75 rfl) rfl rfl ((hS1.f f2).k 0 (by decide) rfl) (hW2.1 229 0 3 (by decide)) ?_
      refine V_iconst (pc := 63) (v := 1) dX7_passDay_63 (by decide) ?_
      refine V_iadd (pc := 64) dX7_passDay_64 ?_
      refine V_pi (pc := 65) 7 5 229 dX7_passDay_65 (FL_X7_75 rfl) rfl rfl rfl ((hS1.f f2).k 0 (by decide) rfl) ?_
      have hW65 := hW2.I (hS1.f f2) (f := 229) (i := 0) (k := 3) (by unfold cI; omega) (((((monS (dayF σ nt n).1 nt n).1) 3) + 1))
      have hF65 := (f1.tr f2).I (i := 0) (by unfold wIx; omega) (by omega) (by omega) 229 (((((monS (dayF σ nt n).1 nt n).1) 3) + 1))
      refine V_iln (pc := 68) dX7_passDay_68 rfl rfl ?_
      refine V_iret (pc := 69) dX7_passDay_69 rfl rfl ?_
      refine h _ hF65 ?_
      unfold fday; rw [e1]; exact hW65
set_option maxRecDepth 100000 in
set_option maxHeartbeats 1000000 in
theorem w_spareOf {x : pX} {d : Nat} {S : pS} {Q : Option Nat → pS → Prop} {ad : Nat → Nat} {σ : Nat → Int32} (hS : WS S ad) (hW : WR S ad σ) {a : Nat} (ha : hk S a 6) (h : Q (some (ad 7)) (s4 S (ad 7) (gI S 192 a) (gI S 193 a) (gI S 194 a) (gI S 195 a))) : PR x (d + 2) M_X7_spareOf [.ref ((ad 0)), .ref a] S Q := by
  refine PM_of (by decide +kernel) (Nat.le_of_ble_eq_true rfl) ?_
  show V x (d + 2) M_X7_spareOf (qr Q) (0, 0) 0 [(0, .ref ((ad 0))), (1, .ref a)] [] S
  refine V_aln (pc := 0) dX7_spareOf_0 rfl rfl ?_
  refine V_gr (pc := 1) 7 10 234 dX7_spareOf_1 (FL_X7_43 rfl) rfl rfl (hS.k 0 (by decide) rfl) hS.2.2.1.2.2.2.2.2.1 ?_
  refine V_aln (pc := 4) dX7_spareOf_4 rfl rfl ?_
  refine V_cVv0 (pc := 5) (jc_X7_59 dX7_spareOf_5 rfl) rfl rfl (Nat.le_of_ble_eq_true rfl) (hS.k 7 (by decide) rfl) ?_
  refine c_becomeAs (hS.k 7 (by decide) rfl) ha ?_
  refine V_aln (pc := 8) dX7_spareOf_8 rfl rfl ?_
  refine V_gr (pc := 9) 7 10 234 dX7_spareOf_9 (FL_X7_43 rfl) rfl rfl (hS.k 0 (by decide) rfl) hS.2.2.1.2.2.2.2.2.1 ?_
  refine V_aret (pc := 12) dX7_spareOf_12 rfl (Or.inl ⟨_, rfl⟩) ?_
  exact h
