/-! ===== the class: a World: texts, losses, days ===== -/
theorem neg_5 : (-1000000005 : Int32).toInt < 0 := by decide +kernel
/-- only what texts work on is touched -/
def zfr (S S2 : pS) : Prop := sp S2 = sp S ∧ gI S2 = gI S ∧ ∀ a, ¬ stk S a → gX S2 a = gX S a
theorem zfr.rf {S : pS} : zfr S S := ⟨rfl, rfl, fun _ _ => rfl⟩
theorem zfr.tr {S S1 S2 : pS} (h : zfr S S1) (h2 : zfr S1 S2) : zfr S S2 := ⟨h2.1.trans h.1, h2.2.1.trans h.2.1, fun a q => (h2.2.2 a (fun w => q ((stk_sp h.1).mp w))).trans (h.2.2 a q)⟩
theorem zfr.X {S : pS} {c : Nat} (hc : stk S c) (r : Nat → Int32) : zfr S (sX S c r) := ⟨rfl, rfl, fun a q => by
  rw [gX_sX, if_neg (fun (w : a = c) => q (by rw [w]; exact hc))]⟩
theorem zfr.w {S S2 : pS} (h : zfr S S2) (ad : Nat → Nat) : wfr ad S S2 := ⟨h.1, fun f a _ => by rw [h.2.1], fun a q => h.2.2 a (fun w => q (Or.inl w))⟩
theorem WR.z {S S2 : pS} {ad : Nat → Nat} {σ : Nat → Int32} (h : WR S ad σ) (hS : WS S ad) (hz : zfr S S2) : WR S2 ad σ := by
  refine ⟨fun f i k hc => by rw [hz.2.1]; exact h.1 _ _ _ hc, fun j hj => ?_, fun j hj => ?_⟩
  · rw [hz.2.2 _ (fun w => (hS.2.2.2.2.2.1 _ w).2 2 (by decide) rfl)]; exact h.2.1 j hj
  · rw [hz.2.2 _ (fun w => (hS.2.2.2.2.2.1 _ w).2 4 (by decide) rfl)]; exact h.2.2 j hj
theorem WS.z {S S2 : pS} {ad : Nat → Nat} (h : WS S ad) (hz : zfr S S2) : WS S2 ad := h.sp hz.1
theorem TX.z {S S2 : pS} {ad : Nat → Nat} {σ : Nat → Int32} {nt : Nat} (h : TX S ad σ nt) (hS : WS S ad) (hz : zfr S S2) : TX S2 ad σ nt := h.w hS (hz.w ad) tl.rf
set_option maxRecDepth 100000 in
set_option maxHeartbeats 1000000 in
theorem w_textAt {x : pX} {d : Nat} {S : pS} {Q : Option Nat → pS → Prop} {ad : Nat → Nat} {σ : Nat → Int32} (hS : WS S ad) (hW : WR S ad σ) {nt : Nat} (ht : σ 1 = nI nt) (ht14 : nt ≤ 14) (hX : TX S ad σ nt) {i : Int32} (h1 : ∀ t τ, t < nt → i = nI t → (nI t).toInt = t → (nI t).toNatClampNeg = t → gY S (ad 5) t = some τ → TO S τ σ t → Q (some τ) S) (h0 : ¬ (0 ≤ i.toInt ∧ i.toInt < nt) → Q none S) : PR x (d + 1) M_X7_textAt [.ref ((ad 0)), .int i] S Q := by
  have tn : (nI nt).toInt = nt := nI_toInt (by omega)
  refine PM_of (by decide +kernel) (Nat.le_of_ble_eq_true rfl) ?_
  show V x (d + 1) M_X7_textAt (qr Q) (0, 0) 0 [(0, .ref ((ad 0))), (1, .int i)] [] S
  refine V_iln (pc := 0) dX7_textAt_0 rfl rfl ?_
  refine V_lt (pc := 1) (t := 27) dX7_textAt_1 (by decide) (fun h1_ => ?_) (fun h1_ => ?_)
  · have q0 : ¬ (0 ≤ i.toInt ∧ i.toInt < nt) := fun w => by have := lt_toInt.mp h1_; have e : (0 : Int32).toInt = 0 := rfl; omega
    refine V_null (pc := 27) dX7_textAt_27 ?_
    refine V_aretN (pc := 28) dX7_textAt_28 rfl (Or.inl ⟨_, rfl⟩) ?_
    first | exact h1 k τ hk rfl e2 e3 eτ oτ | exact h0 q0
  · have q1 : 0 ≤ i.toInt := by have := le_toInt.mp (Int32.not_lt.mp h1_); have e : (0 : Int32).toInt = 0 := rfl; omega
    refine V_iln (pc := 4) dX7_textAt_4 rfl rfl ?_
    refine V_aln (pc := 5) dX7_textAt_5 rfl rfl ?_
    refine V_gie (pc := 6) 7 8 232 dX7_textAt_6 (FL_X7_78 rfl) rfl rfl (hS.k 0 (by decide) rfl) (hW.1 232 0 1 (by decide)) ?_
    refine V_cge (pc := 9) (t := 27) dX7_textAt_9 (by decide) (fun h9 => ?_) (fun h9 => ?_)
    · have q0 : ¬ (0 ≤ i.toInt ∧ i.toInt < nt) := fun w => by rw [ht] at h9; have := le_toInt.mp h9; omega
      refine V_null (pc := 27) dX7_textAt_27 ?_
      refine V_aretN (pc := 28) dX7_textAt_28 rfl (Or.inl ⟨_, rfl⟩) ?_
      first | exact h1 k τ hk rfl e2 e3 eτ oτ | exact h0 q0
    · have q2 : i.toInt < nt := by rw [ht] at h9; have := lt_toInt.mp (Int32.not_le.mp h9); omega
      obtain ⟨k, hk, e1, e2, e3⟩ := idx_of (w := i) (n := nt) (by omega) q1 q2
      subst e1
      refine V_iln (pc := 12) dX7_textAt_12 rfl rfl ?_
      refine V_bipush (pc := 13) (v := 14) dX7_textAt_13 (by decide) ?_
      refine V_cge (pc := 15) (t := 27) dX7_textAt_15 (by decide) (fun h15 => ?_) (fun h15 => ?_)
      · exact absurd h15 (nI_ge (b := 14) (by omega) (by decide))
      · refine V_aln (pc := 18) dX7_textAt_18 rfl rfl ?_
        refine V_gr (pc := 19) 7 7 231 dX7_textAt_19 (FL_X7_34 rfl) rfl rfl (hS.k 0 (by decide) rfl) hS.2.2.1.2.2.2.1 ?_
        refine V_iln (pc := 22) dX7_textAt_22 rfl rfl ?_
        obtain ⟨τ, eτ, oτ⟩ := hX.1 k hk
        refine V_aa (pc := 23) (N := 14) 13 k dX7_textAt_23 (by decide) (by decide) (hS.k 5 (by decide) rfl) (hS.2.1 5 (by decide)) (by decide) rfl (by omega) eτ ?_
        refine V_goto (pc := 24) (t := 28) dX7_textAt_24 (by decide) ?_
        refine V_aret (pc := 28) dX7_textAt_28 rfl (Or.inl ⟨_, rfl⟩) ?_
        first | exact h1 k τ hk rfl e2 e3 eτ oτ | exact h0 q0
/-- the text that counts for a key: asked for by what the World holds -/
theorem cnt_at {S : pS} {ad : Nat → Nat} {σ : Nat → Int32} {nt : Nat} (hX : TX S ad σ nt) (h14 : nt ≤ 14) {k : Nat} (hk : k < 3) : (fcnt σ (nI k) nt < 0 ∧ gX S (ad 6) k = -1000000005) ∨ ∃ t, t < nt ∧ fcnt σ (nI k) nt = nI t ∧ gX S (ad 6) k = nI t ∧ σ (154 + 200 * t) = nI k ∧ ¬ fcnt σ (nI k) nt < 0 := by
  have e := hX.2 k hk
  rcases fcnt_cases σ (nI k) nt (by omega) with q | ⟨t, q1, q2, q3⟩
  · rw [q] at e; rw [q]; exact Or.inl ⟨by decide, e⟩
  · refine Or.inr ⟨t, q1, q2, ?_, q3, ?_⟩
    · rw [q2, if_neg (nI_pos (by omega))] at e; exact e
    · rw [q2]; exact nI_pos (by omega)
set_option maxRecDepth 100000 in
set_option maxHeartbeats 1000000 in
theorem w_weighingLoss {x : pX} {d : Nat} {S : pS} {Q : Int32 → pS → Prop} {ad : Nat → Nat} {σ : Nat → Int32} (hS : WS S ad) (hW : WR S ad σ) {nt : Nat} (ht : σ 1 = nI nt) (ht14 : nt ≤ 14) (hX : TX S ad σ nt) {a : Nat} (ha : hk S a 6) (h : ∀ S2, zfr S S2 → Q (flossK σ nt (gI S 192 a) (gI S 193 a) (gI S 194 a) (gI S 195 a)) S2) : PI x (d + 4) M_X7_weighingLoss [.ref ((ad 0)), .ref a] S Q := by
  refine PM_of (by decide +kernel) (Nat.le_of_ble_eq_true rfl) ?_
  show V x (d + 4) M_X7_weighingLoss (qi Q) (0, 0) 0 [(0, .ref ((ad 0))), (1, .ref a)] [] S
  refine V_iconst (pc := 0) (v := 1) dX7_weighingLoss_0 (by decide) ?_
  refine V_isn (pc := 1) (fun y => [(0, .ref ((ad 0))), (1, .ref a), (2, .int y)]) dX7_weighingLoss_1 rfl (by decide) (fun _ => rfl) (fun y1 ey1 => ?_)
  refine V_aln (pc := 2) dX7_weighingLoss_2 rfl rfl ?_
  refine V_aln (pc := 3) dX7_weighingLoss_3 rfl rfl ?_
  refine V_gr (pc := 4) 7 9 233 dX7_weighingLoss_4 (FL_X7_39 rfl) rfl rfl (hS.k 0 (by decide) rfl) hS.2.2.1.2.2.2.2.1 ?_
  refine V_iconst (pc := 7) (v := 0) dX7_weighingLoss_7 (by decide) ?_
  refine V_ia (pc := 8) (N := 3) 0 dX7_weighingLoss_8 (hS.k 6 (by decide) rfl) (hS.2.1 6 (by decide)) (by decide) rfl (by decide) ?_
  refine V_cVr0 (pc := 9) (jc_X7_133 dX7_weighingLoss_9 rfl) rfl rfl (Nat.le_of_ble_eq_true rfl) (hS.k 0 (by decide) rfl) ?_
  refine w_textAt hS hW ht ht14 hX (fun t τ htn et tt ct eY oT => ?_) (fun nT => ?_)
  · have hc := cnt_at hX ht14 (k := 0) (by decide)
    obtain ⟨ef, ek, cn⟩ : fcnt σ (nI 0) nt = nI t ∧ σ (154 + 200 * t) = nI 0 ∧ ¬ fcnt σ (nI 0) nt < 0 := by
      rcases hc with ⟨_, ec⟩ | ⟨t2, h2, ef, ec, ek, cn⟩
      · rw [ec] at et; exact absurd et (fun w => by have := congrArg Int32.toInt w; rw [tt] at this; have q : (-1000000005 : Int32).toInt < 0 := neg_5; omega)
      · have e3 : t2 = t := (nI_eq (by omega) (by omega)).mp (ec.symm.trans et)
        subst e3; exact ⟨ef, ek, cn⟩
    refine V_asn (pc := 12) (ls' := [(0, .ref ((ad 0))), (1, .ref a), (2, .int y1), (3, .ref τ)]) dX7_weighingLoss_12 rfl (by decide) rfl ?_
    refine V_aln (pc := 13) dX7_weighingLoss_13 rfl rfl ?_
    refine V_ifnull (pc := 14) (t := 40) dX7_weighingLoss_14 (by decide) ?_
    refine V_aln (pc := 17) dX7_weighingLoss_17 rfl rfl ?_
    refine V_aln (pc := 18) dX7_weighingLoss_18 rfl rfl ?_
    refine V_gie (pc := 19) 6 2 194 dX7_weighingLoss_19 (FL_X7_109 rfl) rfl rfl ha rfl ?_
    refine V_aln (pc := 22) dX7_weighingLoss_22 rfl rfl ?_
    refine V_gie (pc := 23) 6 3 195 dX7_weighingLoss_23 (FL_X7_137 rfl) rfl rfl ha rfl ?_
    refine V_aln (pc := 26) dX7_weighingLoss_26 rfl rfl ?_
    refine V_gie (pc := 27) 6 1 193 dX7_weighingLoss_27 (FL_X7_112 rfl) rfl rfl ha rfl ?_
    refine V_cVi0 (pc := 30) (jc_X7_140 dX7_weighingLoss_30 rfl) rfl rfl (Nat.le_of_ble_eq_true rfl) oT.1 ?_
    refine t_gives (t := t) hS oT (fun c r hc => ?_)
    have z2 := zfr.X hc r
    · refine V_iconst (pc := 33) (v := 0) dX7_weighingLoss_33 (by decide) ?_
      refine V_bipush (pc := 34) (v := 99) dX7_weighingLoss_34 (by decide) ?_
      refine V_cSi0 (pc := 36) (jc_X7_144 dX7_weighingLoss_36 rfl) rfl rfl (Nat.le_of_ble_eq_true rfl) ?_
      refine c_held (by decide) ?_
      refine V_isn (pc := 39) (fun y => [(0, .ref ((ad 0))), (1, .ref a), (2, .int y), (3, .ref τ)]) dX7_weighingLoss_39 rfl (by decide) (fun _ => rfl) (fun y39 ey39 => ?_)
      refine V_aln (pc := 40) dX7_weighingLoss_40 rfl rfl ?_
      refine V_iln (pc := 41) dX7_weighingLoss_41 rfl rfl ?_
      refine V_cVi0 (pc := 42) (jc_X7_147 dX7_weighingLoss_42 rfl) rfl rfl (Nat.le_of_ble_eq_true rfl) ha ?_
      refine c_lossBy ha ?_
      refine V_aln (pc := 45) dX7_weighingLoss_45 rfl rfl ?_
      refine V_gie (pc := 46) 6 2 194 dX7_weighingLoss_46 (FL_X7_109 rfl) rfl rfl ha rfl ?_
      refine V_min (pc := 49) (jm_X7_150 dX7_weighingLoss_49 rfl) (by omega) (Nat.le_of_ble_eq_true rfl) ?_
      refine V_iret (pc := 52) dX7_weighingLoss_52 rfl rfl ?_
      first
        | (have ep : fplain σ nt (gI S 194 a) (gI S 195 a) (gI S 193 a) = y39 := by
             unfold fplain; rw [if_neg (show ¬ fcnt σ 0 nt < 0 from cn), show fcnt σ 0 nt = nI t from ef, nI_clamp (by omega), ey39, ek]; rfl
           have q := h _ z2
           unfold flossK at q
           rw [ep, min_sw] at q
           exact q)
        | (have ep : fplain σ nt (gI S 194 a) (gI S 195 a) (gI S 193 a) = y1 := by
             unfold fplain; rw [if_pos (show fcnt σ 0 nt < 0 from cn)]; exact ey1.symm
           have q := h _ zfr.rf
           unfold flossK at q
           rw [ep, min_sw] at q
           exact q)
  · have hc := cnt_at hX ht14 (k := 0) (by decide)
    have cn : fcnt σ (nI 0) nt < 0 := by
      rcases hc with ⟨q, _⟩ | ⟨t2, h2, ef, ec, ek, cn⟩
      · exact q
      · exact absurd nT (by rw [ec, nI_toInt (by omega)]; omega)
    refine V_asnN (pc := 12) (ls' := [(0, .ref ((ad 0))), (1, .ref a), (2, .int y1), (3, .null)]) dX7_weighingLoss_12 rfl (by decide) rfl ?_
    refine V_alNn (pc := 13) dX7_weighingLoss_13 rfl rfl ?_
    refine V_ifnullN (pc := 14) (t := 40) dX7_weighingLoss_14 (by decide) ?_
    refine V_aln (pc := 40) dX7_weighingLoss_40 rfl rfl ?_
    refine V_iln (pc := 41) dX7_weighingLoss_41 rfl rfl ?_
    refine V_cVi0 (pc := 42) (jc_X7_147 dX7_weighingLoss_42 rfl) rfl rfl (Nat.le_of_ble_eq_true rfl) ha ?_
    refine c_lossBy ha ?_
    refine V_aln (pc := 45) dX7_weighingLoss_45 rfl rfl ?_
    refine V_gie (pc := 46) 6 2 194 dX7_weighingLoss_46 (FL_X7_109 rfl) rfl rfl ha rfl ?_
    refine V_min (pc := 49) (jm_X7_150 dX7_weighingLoss_49 rfl) (by omega) (Nat.le_of_ble_eq_true rfl) ?_
    refine V_iret (pc := 52) dX7_weighingLoss_52 rfl rfl ?_
    first
      | (have ep : fplain σ nt (gI S 194 a) (gI S 195 a) (gI S 193 a) = y39 := by
           unfold fplain; rw [if_neg (show ¬ fcnt σ 0 nt < 0 from cn), show fcnt σ 0 nt = nI t from ef, nI_clamp (by omega), ey39, ek]; rfl
         have q := h _ z2
         unfold flossK at q
         rw [ep, min_sw] at q
         exact q)
      | (have ep : fplain σ nt (gI S 194 a) (gI S 195 a) (gI S 193 a) = y1 := by
           unfold fplain; rw [if_pos (show fcnt σ 0 nt < 0 from cn)]; exact ey1.symm
         have q := h _ zfr.rf
         unfold flossK at q
         rw [ep, min_sw] at q
         exact q)
set_option maxRecDepth 100000 in
set_option maxHeartbeats 1000000 in
theorem w_fallLoss {x : pX} {d : Nat} {S : pS} {Q : Int32 → pS → Prop} {ad : Nat → Nat} {σ : Nat → Int32} (hS : WS S ad) (hW : WR S ad σ) {nt : Nat} (ht : σ 1 = nI nt) (ht14 : nt ≤ 14) (hX : TX S ad σ nt) {a : Nat} (ha : hk S a 6) {G : Nat} (hG : G ≤ 999) (eG : gI S 194 a = nI G) (h : ∀ S2, zfr S S2 → Q (hld (10 * flossK σ nt (gI S 192 a) (gI S 193 a) (gI S 194 a) (gI S 195 a)) (gI S 194 a)) S2) : PI x (d + 5) M_X7_fallLoss [.ref ((ad 0)), .ref a] S Q := by
  refine PM_of (by decide +kernel) (Nat.le_of_ble_eq_true rfl) ?_
  show V x (d + 5) M_X7_fallLoss (qi Q) (0, 0) 0 [(0, .ref ((ad 0))), (1, .ref a)] [] S
  refine V_bipush (pc := 0) (v := 10) dX7_fallLoss_0 (by decide) ?_
  refine V_aln (pc := 2) dX7_fallLoss_2 rfl rfl ?_
  refine V_aln (pc := 3) dX7_fallLoss_3 rfl rfl ?_
  refine V_cVi0 (pc := 4) (jc_X7_155 dX7_fallLoss_4 rfl) rfl rfl (Nat.le_of_ble_eq_true rfl) (hS.k 0 (by decide) rfl) ?_
  refine w_weighingLoss hS hW ht ht14 hX ha (fun S2 z2 => ?_)
  · refine V_imul (pc := 7) dX7_fallLoss_7 ?_
    refine V_aln (pc := 8) dX7_fallLoss_8 rfl rfl ?_
    refine V_gie (pc := 9) 6 2 194 dX7_fallLoss_9 (FL_X7_109 rfl) rfl rfl ((hk_sp z2.1).mpr ha) (by rw [z2.2.1]) ?_
    refine V_min (pc := 12) (jm_X7_150 dX7_fallLoss_12 rfl) (by omega) (Nat.le_of_ble_eq_true rfl) ?_
    refine V_iret (pc := 15) dX7_fallLoss_15 rfl rfl ?_
    have q := h S2 z2
    rw [eG] at q ⊢
    rw [(ffall_c σ nt (gI S 192 a) (gI S 193 a) (gI S 195 a) hG).1]
    exact q
set_option maxRecDepth 100000 in
set_option maxHeartbeats 1000000 in
theorem w_lawFor {x : pX} {d : Nat} {S : pS} {Q : Int32 → pS → Prop} {ad : Nat → Nat} {σ : Nat → Int32} (hS : WS S ad) (hW : WR S ad σ) {nt : Nat} (ht : σ 1 = nI nt) (ht14 : nt ≤ 14) (hX : TX S ad σ nt) {a : Nat} (ha : hk S a 6) (h : ∀ S2, zfr S S2 → Q (if fcnt σ 1 nt < 0 then gI S 193 a - gI S 193 a / 10 else hld (wkd σ (fcnt σ 1 nt).toNatClampNeg (σ (156 + 200 * (fcnt σ 1 nt).toNatClampNeg)).toNatClampNeg (nmL (gI S 193 a) (σ 3))) 999) S2) : PI x (d + 4) M_X7_lawFor [.ref ((ad 0)), .ref a] S Q := by
  refine PM_of (by decide +kernel) (Nat.le_of_ble_eq_true rfl) ?_
  show V x (d + 4) M_X7_lawFor (qi Q) (0, 0) 0 [(0, .ref ((ad 0))), (1, .ref a)] [] S
  refine V_aln (pc := 0) dX7_lawFor_0 rfl rfl ?_
  refine V_aln (pc := 1) dX7_lawFor_1 rfl rfl ?_
  refine V_gr (pc := 2) 7 9 233 dX7_lawFor_2 (FL_X7_39 rfl) rfl rfl (hS.k 0 (by decide) rfl) hS.2.2.1.2.2.2.2.1 ?_
  refine V_iconst (pc := 5) (v := 1) dX7_lawFor_5 (by decide) ?_
  refine V_ia (pc := 6) (N := 3) 1 dX7_lawFor_6 (hS.k 6 (by decide) rfl) (hS.2.1 6 (by decide)) (by decide) rfl (by decide) ?_
  refine V_cVr0 (pc := 7) (jc_X7_133 dX7_lawFor_7 rfl) rfl rfl (Nat.le_of_ble_eq_true rfl) (hS.k 0 (by decide) rfl) ?_
  refine w_textAt hS hW ht ht14 hX (fun t τ htn et tt ct eY oT => ?_) (fun nT => ?_)
  · have hc := cnt_at hX ht14 (k := 1) (by decide)
    obtain ⟨ef, ek, cn⟩ : fcnt σ (nI 1) nt = nI t ∧ σ (154 + 200 * t) = nI 1 ∧ ¬ fcnt σ (nI 1) nt < 0 := by
      rcases hc with ⟨_, ec⟩ | ⟨t2, h2, ef, ec, ek, cn⟩
      · rw [ec] at et; exact absurd et (fun w => by have := congrArg Int32.toInt w; rw [tt] at this; have q : (-1000000005 : Int32).toInt < 0 := neg_5; omega)
      · have e3 : t2 = t := (nI_eq (by omega) (by omega)).mp (ec.symm.trans et)
        subst e3; exact ⟨ef, ek, cn⟩
    rw [show (1 : Int32) = nI 1 from rfl] at h
    rw [if_neg cn, ef, nI_clamp (by omega)] at h
    refine V_asn (pc := 10) (ls' := [(0, .ref ((ad 0))), (1, .ref a), (2, .ref τ)]) dX7_lawFor_10 rfl (by decide) rfl ?_
    refine V_aln (pc := 11) dX7_lawFor_11 rfl rfl ?_
    refine V_ifnonnull (pc := 12) (t := 28) dX7_lawFor_12 (by decide) ?_
    refine V_aln (pc := 28) dX7_lawFor_28 rfl rfl ?_
    refine V_aln (pc := 29) dX7_lawFor_29 rfl rfl ?_
    refine V_gie (pc := 30) 6 1 193 dX7_lawFor_30 (FL_X7_112 rfl) rfl rfl ha rfl ?_
    refine V_aln (pc := 33) dX7_lawFor_33 rfl rfl ?_
    refine V_gie (pc := 34) 7 5 229 dX7_lawFor_34 (FL_X7_75 rfl) rfl rfl (hS.k 0 (by decide) rfl) (hW.1 229 0 3 (by decide)) ?_
    refine V_iconst (pc := 37) (v := 0) dX7_lawFor_37 (by decide) ?_
    refine V_cVi0 (pc := 38) (jc_X7_140 dX7_lawFor_38 rfl) rfl rfl (Nat.le_of_ble_eq_true rfl) oT.1 ?_
    refine t_gives (t := t) hS oT (fun c r hc => ?_)
    have z2 := zfr.X hc r
    rw [ek]
    · refine V_iconst (pc := 41) (v := 0) dX7_lawFor_41 (by decide) ?_
      refine V_sipush (pc := 42) (v := 999) dX7_lawFor_42 (by decide) ?_
      refine V_cSi0 (pc := 45) (jc_X7_144 dX7_lawFor_45 rfl) rfl rfl (Nat.le_of_ble_eq_true rfl) ?_
      refine c_held (by decide) ?_
      refine V_iret (pc := 48) dX7_lawFor_48 rfl rfl ?_
      exact h _ z2
  · have hc := cnt_at hX ht14 (k := 1) (by decide)
    have cn : fcnt σ (nI 1) nt < 0 := by
      rcases hc with ⟨q, _⟩ | ⟨t2, h2, ef, ec, ek, cn⟩
      · exact q
      · exact absurd nT (by rw [ec, nI_toInt (by omega)]; omega)
    rw [show (1 : Int32) = nI 1 from rfl] at h
    rw [if_pos cn] at h
    refine V_asnN (pc := 10) (ls' := [(0, .ref ((ad 0))), (1, .ref a), (2, .null)]) dX7_lawFor_10 rfl (by decide) rfl ?_
    refine V_alNn (pc := 11) dX7_lawFor_11 rfl rfl ?_
    refine V_ifnonnullN (pc := 12) (t := 28) dX7_lawFor_12 (by decide) ?_
    refine V_aln (pc := 15) dX7_lawFor_15 rfl rfl ?_
    refine V_gie (pc := 16) 6 1 193 dX7_lawFor_16 (FL_X7_112 rfl) rfl rfl ha rfl ?_
    refine V_aln (pc := 19) dX7_lawFor_19 rfl rfl ?_
    refine V_gie (pc := 20) 6 1 193 dX7_lawFor_20 (FL_X7_112 rfl) rfl rfl ha rfl ?_
    refine V_bipush (pc := 23) (v := 10) dX7_lawFor_23 (by decide) ?_
    refine V_idiv (pc := 25) dX7_lawFor_25 (by decide) ?_
    refine V_isub (pc := 26) dX7_lawFor_26 ?_
    refine V_iret (pc := 27) dX7_lawFor_27 rfl rfl ?_
    exact h _ zfr.rf
set_option maxRecDepth 100000 in
set_option maxHeartbeats 1000000 in
theorem w_fineOf {x : pX} {d : Nat} {S : pS} {Q : Int32 → pS → Prop} {ad : Nat → Nat} {σ : Nat → Int32} (hS : WS S ad) (hW : WR S ad σ) {nt : Nat} (ht : σ 1 = nI nt) (ht14 : nt ≤ 14) (hX : TX S ad σ nt) {a : Nat} (ha : hk S a 6) (h : ∀ S2, zfr S S2 → Q (if fcnt σ 2 nt < 0 then (if gI S 193 a - gI S 194 a < 0 then 0 else gI S 193 a - gI S 194 a) else wkd σ (fcnt σ 2 nt).toNatClampNeg (σ (156 + 200 * (fcnt σ 2 nt).toNatClampNeg)).toNatClampNeg (nmF (gI S 193 a - gI S 194 a) (gI S 195 a))) S2) : PI x (d + 4) M_X7_fineOf [.ref ((ad 0)), .ref a] S Q := by
  refine PM_of (by decide +kernel) (Nat.le_of_ble_eq_true rfl) ?_
  show V x (d + 4) M_X7_fineOf (qi Q) (0, 0) 0 [(0, .ref ((ad 0))), (1, .ref a)] [] S
  refine V_aln (pc := 0) dX7_fineOf_0 rfl rfl ?_
  refine V_gie (pc := 1) 6 1 193 dX7_fineOf_1 (FL_X7_112 rfl) rfl rfl ha rfl ?_
  refine V_aln (pc := 4) dX7_fineOf_4 rfl rfl ?_
  refine V_gie (pc := 5) 6 2 194 dX7_fineOf_5 (FL_X7_109 rfl) rfl rfl ha rfl ?_
  refine V_isub (pc := 8) dX7_fineOf_8 ?_
  refine V_isn (pc := 9) (fun y => [(0, .ref ((ad 0))), (1, .ref a), (2, .int y)]) dX7_fineOf_9 rfl (by decide) (fun _ => rfl) (fun y9 ey9 => ?_)
  refine V_aln (pc := 10) dX7_fineOf_10 rfl rfl ?_
  refine V_aln (pc := 11) dX7_fineOf_11 rfl rfl ?_
  refine V_gr (pc := 12) 7 9 233 dX7_fineOf_12 (FL_X7_39 rfl) rfl rfl (hS.k 0 (by decide) rfl) hS.2.2.1.2.2.2.2.1 ?_
  refine V_iconst (pc := 15) (v := 2) dX7_fineOf_15 (by decide) ?_
  refine V_ia (pc := 16) (N := 3) 2 dX7_fineOf_16 (hS.k 6 (by decide) rfl) (hS.2.1 6 (by decide)) (by decide) rfl (by decide) ?_
  refine V_cVr0 (pc := 17) (jc_X7_133 dX7_fineOf_17 rfl) rfl rfl (Nat.le_of_ble_eq_true rfl) (hS.k 0 (by decide) rfl) ?_
  refine w_textAt hS hW ht ht14 hX (fun t τ htn et tt ct eY oT => ?_) (fun nT => ?_)
  · have hc := cnt_at hX ht14 (k := 2) (by decide)
    obtain ⟨ef, ek, cn⟩ : fcnt σ (nI 2) nt = nI t ∧ σ (154 + 200 * t) = nI 2 ∧ ¬ fcnt σ (nI 2) nt < 0 := by
      rcases hc with ⟨_, ec⟩ | ⟨t2, h2, ef, ec, ek, cn⟩
      · rw [ec] at et; exact absurd et (fun w => by have := congrArg Int32.toInt w; rw [tt] at this; have q : (-1000000005 : Int32).toInt < 0 := neg_5; omega)
      · have e3 : t2 = t := (nI_eq (by omega) (by omega)).mp (ec.symm.trans et)
        subst e3; exact ⟨ef, ek, cn⟩
    rw [show (2 : Int32) = nI 2 from rfl] at h
    rw [if_neg cn, ef, nI_clamp (by omega)] at h
    refine V_asn (pc := 20) (ls' := [(0, .ref ((ad 0))), (1, .ref a), (2, .int y9), (3, .ref τ)]) dX7_fineOf_20 rfl (by decide) rfl ?_
    refine V_aln (pc := 21) dX7_fineOf_21 rfl rfl ?_
    refine V_ifnonnull (pc := 22) (t := 33) dX7_fineOf_22 (by decide) ?_
    refine V_aln (pc := 33) dX7_fineOf_33 rfl rfl ?_
    refine V_iln (pc := 34) dX7_fineOf_34 rfl rfl ?_
    refine V_aln (pc := 35) dX7_fineOf_35 rfl rfl ?_
    refine V_gie (pc := 36) 6 3 195 dX7_fineOf_36 (FL_X7_137 rfl) rfl rfl ha rfl ?_
    refine V_iconst (pc := 39) (v := 0) dX7_fineOf_39 (by decide) ?_
    refine V_cVi0 (pc := 40) (jc_X7_140 dX7_fineOf_40 rfl) rfl rfl (Nat.le_of_ble_eq_true rfl) oT.1 ?_
    refine t_gives (t := t) hS oT (fun c r hc => ?_)
    have z2 := zfr.X hc r
    rw [ek, ey9]
    · refine V_iret (pc := 43) dX7_fineOf_43 rfl rfl ?_
      first
        | exact h _ z2
        | (have q := h _ zfr.rf
           have e : (if 0 < y9 then y9 else 0) = (if y9 < 0 then 0 else y9) := by
             by_cases q1 : y9 < 0
             · rw [if_pos q1, if_neg (Int32.not_lt.mpr (Int32.le_of_lt q1))]
             · rw [if_neg q1]
               by_cases q2 : 0 < y9
               · rw [if_pos q2]
               · rw [if_neg q2]; exact Int32.le_antisymm (Int32.not_lt.mp q1) (Int32.not_lt.mp q2)
           rw [e, ey9]
           exact q)
  · have hc := cnt_at hX ht14 (k := 2) (by decide)
    have cn : fcnt σ (nI 2) nt < 0 := by
      rcases hc with ⟨q, _⟩ | ⟨t2, h2, ef, ec, ek, cn⟩
      · exact q
      · exact absurd nT (by rw [ec, nI_toInt (by omega)]; omega)
    rw [show (2 : Int32) = nI 2 from rfl] at h
    rw [if_pos cn] at h
    refine V_asnN (pc := 20) (ls' := [(0, .ref ((ad 0))), (1, .ref a), (2, .int y9), (3, .null)]) dX7_fineOf_20 rfl (by decide) rfl ?_
    refine V_alNn (pc := 21) dX7_fineOf_21 rfl rfl ?_
    refine V_ifnonnullN (pc := 22) (t := 33) dX7_fineOf_22 (by decide) ?_
    refine V_iconst (pc := 25) (v := 0) dX7_fineOf_25 (by decide) ?_
    refine V_iln (pc := 26) dX7_fineOf_26 rfl rfl ?_
    refine V_max (pc := 27) (jm_X7_159 dX7_fineOf_27 rfl) (by omega) (Nat.le_of_ble_eq_true rfl) ?_
    refine V_goto (pc := 30) (t := 43) dX7_fineOf_30 (by decide) ?_
    refine V_iret (pc := 43) dX7_fineOf_43 rfl rfl ?_
    first
      | exact h _ z2
      | (have q := h _ zfr.rf
         have e : (if 0 < y9 then y9 else 0) = (if y9 < 0 then 0 else y9) := by
           by_cases q1 : y9 < 0
           · rw [if_pos q1, if_neg (Int32.not_lt.mpr (Int32.le_of_lt q1))]
           · rw [if_neg q1]
             by_cases q2 : 0 < y9
             · rw [if_pos q2]
             · rw [if_neg q2]; exact Int32.le_antisymm (Int32.not_lt.mp q1) (Int32.not_lt.mp q2)
         rw [e, ey9]
         exact q)
set_option maxRecDepth 100000 in
set_option maxHeartbeats 1000000 in
theorem w_wearOnce {x : pX} {d : Nat} {S : pS} {Q : pS → Prop} {ad : Nat → Nat} {σ : Nat → Int32} (hS : WS S ad) (hW : WR S ad σ) {nt : Nat} (ht : σ 1 = nI nt) (ht14 : nt ≤ 14) (hX : TX S ad σ nt) {a : Nat} (ha : hk S a 6) (h : ∀ S2, zfr S S2 → Q (sI (sI S2 194 a (gI S 194 a - flossK σ nt (gI S 192 a) (gI S 193 a) (gI S 194 a) (gI S 195 a))) 195 a (gI S 195 a + 1))) : PV x (d + 5) M_X7_wearOnce [.ref ((ad 0)), .ref a] S Q := by
  refine PM_of (by decide +kernel) (Nat.le_of_ble_eq_true rfl) ?_
  show V x (d + 5) M_X7_wearOnce (qv Q) (0, 0) 0 [(0, .ref ((ad 0))), (1, .ref a)] [] S
  refine V_aln (pc := 0) dX7_wearOnce_0 rfl rfl ?_
  refine V_dup (pc := 1) dX7_wearOnce_1 rfl ?_
  refine V_gie (pc := 2) 6 2 194 dX7_wearOnce_2 (FL_X7_109 rfl) rfl rfl ha rfl ?_
  refine V_aln (pc := 5) dX7_wearOnce_5 rfl rfl ?_
  refine V_aln (pc := 6) dX7_wearOnce_6 rfl rfl ?_
  refine V_cVi0 (pc := 7) (jc_X7_155 dX7_wearOnce_7 rfl) rfl rfl (Nat.le_of_ble_eq_true rfl) (hS.k 0 (by decide) rfl) ?_
  refine w_weighingLoss hS hW ht ht14 hX ha (fun S2 z2 => ?_)
  · refine V_isub (pc := 10) dX7_wearOnce_10 ?_
    refine V_pi (pc := 11) 6 2 194 dX7_wearOnce_11 (FL_X7_109 rfl) rfl rfl rfl ((hk_sp z2.1).mpr ha) ?_
    refine V_aln (pc := 14) dX7_wearOnce_14 rfl rfl ?_
    refine V_dup (pc := 15) dX7_wearOnce_15 rfl ?_
    refine V_gi (pc := 16) 6 3 195 dX7_wearOnce_16 (FL_X7_137 rfl) rfl rfl ((hk_sp z2.1).mpr ha) ?_
    refine V_iconst (pc := 19) (v := 1) dX7_wearOnce_19 (by decide) ?_
    refine V_iadd (pc := 20) dX7_wearOnce_20 ?_
    refine V_pi (pc := 21) 6 3 195 dX7_wearOnce_21 (FL_X7_137 rfl) rfl rfl rfl ((hk_sp z2.1).mpr ha) ?_
    refine V_ret (pc := 24) dX7_wearOnce_24 rfl ?_
    have e : gI (sI S2 194 a (gI S 194 a - flossK σ nt (gI S 192 a) (gI S 193 a) (gI S 194 a) (gI S 195 a))) 195 a = gI S 195 a := by rw [gI_sI, if_neg (fun q => absurd q.1 (by decide)), z2.2.1]
    rw [e]
    exact h S2 z2
