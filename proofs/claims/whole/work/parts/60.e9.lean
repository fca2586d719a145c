/-! ===== a text comes to the live World ===== -/
section ROW
variable {P P' : pS} {c m a q r : Nat} {lv im tr ct as ad : Nat → Nat} {A : Nat → Nat → Int32} {F : Nat → Int32} {n nt np : Nat} {σ τ : Nat → Int32}
def aT (t : Nat) (σ τ : Nat → Int32) : Prop := ∀ k, 154 + 200 * t ≤ k → k < 354 + 200 * t → τ k = σ k
theorem hgt_t {t : Nat} (h : aT t σ τ) : ∀ k, k ≤ 98 → hgt τ t k = hgt σ t k
  | 0, _ => rfl
  | k + 1, hk => by
    unfold hgt
    rw [h _ (by omega) (by omega), h _ (by omega) (by omega), hgt_t h k (by omega)]
theorem wfT_t {t many : Nat} (h : aT t σ τ) (hw : wfT σ t many) : wfT τ t many := by
  unfold wfT at *
  have h98 := hw.2.2.1
  rw [h _ (by omega) (by omega), hgt_t h many h98]
  refine ⟨hw.1, hw.2.1, hw.2.2.1, fun k hk => ?_, hw.2.2.2.2⟩
  rw [hgt_t h k (by omega), h _ (by omega) (by omega), h _ (by omega) (by omega), h _ (by omega) (by omega)]
  exact hw.2.2.2.1 k hk
theorem fcnt_t (key : Int32) : ∀ nt, (∀ k, 154 ≤ k → k < 154 + 200 * nt → τ k = σ k) → fcnt τ key nt = fcnt σ key nt
  | 0, _ => rfl
  | nt + 1, h => by unfold fcnt; rw [h _ (by omega) (by omega), fcnt_t key nt (fun k h1 h2 => h k h1 (by omega))]
theorem TO_t {u t : Nat} (h : aT t σ τ) (o : TO P u σ t) : TO P u τ t := by
  obtain ⟨q1, q2, q3, a, c, many, pcs, r1, r2, r3, r4, r5, r6, r7, r8, r9, r10, r11, r12, r13, r14⟩ := o
  have h98 := r4.2.2.1
  refine ⟨q1, by rw [h _ (by omega) (by omega)]; exact q2, by rw [h _ (by omega) (by omega)]; exact q3, a, c, many, pcs, r1, r2, r3, wfT_t h r4, fun k hk => ?_, r6, r7, r8, by rw [h _ (by omega) (by omega)]; exact r9, r10, fun k hk => ?_, fun k hk => ?_, fun k hk => ?_, ?_⟩
  · rw [h _ (by omega) (by omega), h _ (by omega) (by omega), h _ (by omega) (by omega)]; exact r5 k hk
  · rw [h _ (by omega) (by omega), hgt_t h k (by omega)]; exact r11 k hk
  · rw [h _ (by omega) (by omega), h _ (by omega) (by omega)]; exact r12 k hk
  · rw [h _ (by omega) (by omega), h _ (by omega) (by omega)]; exact r13 k hk
  · rw [h _ (by omega) (by omega)]; exact r14
theorem WR_t (h : ∀ k, k < 154 → τ k = σ k) (w : WR P ad σ) : WR P ad τ := ⟨fun f i k c => by rw [h k (by unfold cI at c; omega)]; exact w.1 f i k c, fun j hj => by rw [h _ (by omega)]; exact w.2.1 j hj, fun j hj => by rw [h _ (by omega)]; exact w.2.2 j hj⟩
theorem VI_t (h : ∀ k, k < 154 → k ≠ 1 → τ k = σ k) (hn : n ≤ 10) (w : VI σ n) : VI τ n := ⟨fun i hi => by rw [h _ (by omega) (by omega), h _ (by omega) (by omega), h _ (by omega) (by omega)]; exact w.1 i hi, by rw [h 2 (by decide) (by decide)]; exact w.2⟩
/-- rows alike below the texts' end -/
theorem LV_lo (h : ∀ k, k < 154 + 200 * nt → τ k = σ k) (w : LV P ad σ n nt np) : LV P ad τ n nt np := by
  obtain ⟨w1, w2, w3, w4⟩ := w
  have ht : ∀ t, t < nt → aT t σ τ := fun t ht k h1 h2 => h k (by omega)
  refine ⟨WR_t (fun k hk => h k (by omega)) w1, ⟨fun t hh => ?_, fun k hk => ?_⟩, ⟨⟨by rw [h 0 (by omega)]; exact w3.1.1, w3.1.2⟩, ⟨by rw [h 1 (by omega)]; exact w3.2.1.1, w3.2.1.2⟩, ⟨by rw [h 5 (by omega)]; exact w3.2.2.1.1, w3.2.2.1.2⟩, fun t hh => ?_⟩, VI_t (fun k hk _ => h k (by omega)) w3.1.2 w4⟩
  · obtain ⟨q, e, o⟩ := w2.1 t hh
    exact ⟨q, e, TO_t (ht t hh) o⟩
  · rw [fcnt_t _ nt (fun k _ h2 => h k h2)]; exact w2.2 k hk
  · obtain ⟨many, q⟩ := w3.2.2.2 t hh
    exact ⟨many, wfT_t (ht t hh) q⟩
theorem stl_lo (σ : Nat → Int32) (nt : Nat) (hn : nt ≤ 14) (o : sps) {k : Nat} (h : k < 158 + 200 * nt) (h2 : nt = 14 → k < 2954) : stl σ (zAt nt) o k = σ k := by
  unfold stl; rw [if_neg]; unfold zAt; split <;> omega
theorem stl_at (σ : Nat → Int32) {nt : Nat} (hn : nt < 14) {o : sps} {k : Nat} (hk : k < o.length) : stl σ (zAt nt) o (158 + 200 * nt + 2 * k) = (o.getD k (0, 0)).1 ∧ stl σ (zAt nt) o (159 + 200 * nt + 2 * k) = (o.getD k (0, 0)).2 := by
  unfold stl zAt
  rw [if_pos hn]
  refine ⟨?_, ?_⟩
  · rw [if_pos (by omega), if_pos (by omega), show (158 + 200 * nt + 2 * k - (158 + 200 * nt)) / 2 = k by omega]
  · rw [if_pos (by omega), if_neg (by omega), show (159 + 200 * nt + 2 * k - (158 + 200 * nt)) / 2 = k by omega]
/-- the row with one text more -/
def rwT (σ : Nat → Int32) (nt : Nat) (key : Int32) (o : sps) : Nat → Int32 := upd (upd (upd (upd (stl σ (zAt nt) o) (154 + 200 * nt) key) (155 + 200 * nt) (nI (cntN o))) (156 + 200 * nt) (nI o.length)) 1 (nI (nt + 1))
theorem rwT_lo (σ : Nat → Int32) {nt : Nat} (hn : nt < 14) (key : Int32) (o : sps) {k : Nat} (h : k < 154 + 200 * nt) (h1 : k ≠ 1) : rwT σ nt key o k = σ k := by
  unfold rwT; rw [pk_un (by omega), pk_un (by omega), pk_un (by omega), pk_un (by omega), stl_lo σ nt (by omega) o (by omega) (by omega)]
theorem rwT_1 (σ : Nat → Int32) (nt : Nat) (key : Int32) (o : sps) : rwT σ nt key o 1 = nI (nt + 1) := pk_us
theorem rwT_4 (σ : Nat → Int32) (nt : Nat) (key : Int32) (o : sps) : rwT σ nt key o (154 + 200 * nt) = key ∧ rwT σ nt key o (155 + 200 * nt) = nI (cntN o) ∧ rwT σ nt key o (156 + 200 * nt) = nI o.length := by
  unfold rwT
  refine ⟨?_, ?_, ?_⟩
  · rw [pk_un (by omega), pk_un (by omega), pk_un (by omega), pk_us]
  · rw [pk_un (by omega), pk_un (by omega), pk_us]
  · rw [pk_un (by omega), pk_us]
theorem rwT_s (σ : Nat → Int32) {nt : Nat} (hn : nt < 14) (key : Int32) {o : sps} {k : Nat} (hk : k < o.length) : rwT σ nt key o (158 + 200 * nt + 2 * k) = (o.getD k (0, 0)).1 ∧ rwT σ nt key o (159 + 200 * nt + 2 * k) = (o.getD k (0, 0)).2 := by
  unfold rwT
  rw [pk_un (by omega), pk_un (by omega), pk_un (by omega), pk_un (by omega), pk_un (by omega), pk_un (by omega), pk_un (by omega), pk_un (by omega)]
  exact stl_at σ hn hk
/-- a Text's cells hold these steps -/
def HT (P : pS) (a q r : Nat) (key : Int32) (o : sps) : Prop := hk P a 5 ∧ gI P 160 a = key ∧ gI P 161 a = nI (cntN o) ∧ gR P 162 a = some q ∧ hk P q 10 ∧ gN P q = o.length ∧ (∀ k, k < o.length → gX P q k = enc key (o.getD k (0, 0)).1 (o.getD k (0, 0)).2) ∧ gR P 163 a = some r ∧ hk P r 10 ∧ gN P r = cntN o
theorem HT.to {key : Int32} {o : sps} (h : HT P a q r key o) (hn : nt < 14) (hw : wfO key o) (h1 : hL o = 1) (ho : o.length < 96) (hk3 : key = 0 ∨ key = 1 ∨ key = 2) : TO P a (rwT σ nt key o) nt ∧ wfT (rwT σ nt key o) nt o.length := by
  obtain ⟨k1, k2, k3, k4, k5, k6, k7, k8, k9, k10⟩ := h
  obtain ⟨e4, e5, e6⟩ := rwT_4 σ nt key o
  have h0 : 0 < o.length := Nat.pos_of_ne_zero (fun e => by rw [List.length_eq_zero_iff.mp e] at h1; exact absurd (show (0 : Nat) = 1 from h1) (by decide))
  have es : ∀ k, k < o.length → rwT σ nt key o (158 + 200 * nt + 2 * k) = (o.getD k (0, 0)).1 ∧ rwT σ nt key o (159 + 200 * nt + 2 * k) = (o.getD k (0, 0)).2 := fun k hk => rwT_s σ hn key hk
  have wf := wfT_o hw h1 (by omega) h0 e4 e6 es
  refine ⟨⟨k1, by rw [e4]; exact k2, by rw [e5]; exact k3, q, r, o.length, cntN o, k4, k5, k6, wf, fun k hk => ?_, k8, k9, k10, e5, by have : cntN o ≤ o.length := List.countP_le_length; omega, fun k hk w => ?_, fun k hk w => ?_, fun k hk w => ?_, by rw [e4]; exact hk3⟩, wf⟩
  · rw [e4, (es k hk).1, (es k hk).2]; exact k7 k hk
  · rw [hgt_hL es k (by omega)]; rw [(es k hk).1] at w; exact wf_pcs hw hk w
  · rw [(es k hk).1] at w
    rw [(es k hk).2]
    rcases hw.1 k hk with p | p | p
    · exact p.2
    · exact absurd (w.symm.trans p.1) (by decide)
    · exact absurd (w.symm.trans p.1) (by decide)
  · rw [(es k hk).1] at w
    rw [(es k hk).2]
    rcases hw.1 k hk with p | p | p
    · exact absurd (w.symm.trans p.1) (by decide)
    · exact absurd (w.symm.trans p.1) (by decide)
    · rcases p.2 with p | p
      · exact Or.inl p.1
      · exact Or.inr p.2.1
theorem lv_add {key : Int32} {o : sps} (w : LV P ad σ n nt np) (hS : WS P ad) (h : HT P a q r key o) (hn : nt < 14) (hw : wfO key o) (h1 : hL o = 1) (ho : o.length < 96) {kk : Nat} (hkk : kk < 3) (ek : key = nI kk) : fr (wC ad) P (sI (sX P (ad 6) (upd (gX P (ad 6)) kk (nI nt))) 232 (ad 0) (nI (nt + 1))) ∧ LV (sY (sI (sX P (ad 6) (upd (gX P (ad 6)) kk (nI nt))) 232 (ad 0) (nI (nt + 1))) (ad 5) (va_up (gY P (ad 5)) nt (some a))) ad (rwT σ nt key o) n (nt + 1) np := by
  have hf : fr (wC ad) P (sI (sX P (ad 6) (upd (gX P (ad 6)) kk (nI nt))) 232 (ad 0) (nI (nt + 1))) := (fr.rf.sX ⟨6, by decide, rfl⟩ _).sI ⟨0, by decide, rfl⟩ _ _
  refine ⟨hf, ?_⟩
  obtain ⟨w1, w2, w3, w4⟩ := w
  have hx := wC_x hS
  have hk3 : key = 0 ∨ key = 1 ∨ key = 2 := by
    rcases (show kk = 0 ∨ kk = 1 ∨ kk = 2 by omega) with e | e | e <;> subst e
    · exact Or.inl ek
    · exact Or.inr (Or.inl ek)
    · exact Or.inr (Or.inr ek)
  obtain ⟨tn, wn⟩ := h.to (σ := σ) hn hw h1 ho hk3
  have lo : ∀ k, k < 154 + 200 * nt → k ≠ 1 → rwT σ nt key o k = σ k := fun k hk h1 => rwT_lo σ hn key o hk h1
  have at_ : ∀ t, t < nt → aT t σ (rwT σ nt key o) := fun t ht k h1 h2 => lo k (by omega) (by omega)
  have W1 := w1.I hS (f := 232) (i := 0) (k := 1) (by unfold cI; omega) (nI (nt + 1))
  have W2 : WR (sI P 232 (ad 0) (nI (nt + 1))) ad (rwT σ nt key o) := WR_t (fun k hk => by
    by_cases e : k = 1
    · subst e; rw [rwT_1]; exact pk_us.symm
    · rw [pk_un (by omega)]; exact lo k (by omega) e) W1
  refine ⟨⟨W2.1, fun j hj => ?_, fun j hj => ?_⟩, ⟨fun t ht => ?_, fun k hk => ?_⟩, ⟨⟨by rw [lo 0 (by omega) (by decide)]; exact w3.1.1, w3.1.2⟩, ⟨rwT_1 _ _ _ _, by omega⟩, ⟨by rw [lo 5 (by omega) (by decide)]; exact w3.2.2.1.1, w3.2.2.1.2⟩, fun t ht => ?_⟩, VI_t (fun k hk h1 => lo k (by omega) h1) w3.1.2 w4⟩
  · show gX (sX P (ad 6) _) (ad 2) j = _
    rw [gX_sX, if_neg (fun e => absurd (hS.2.2.2.2.1 2 6 (by decide) (by decide) e) (by decide))]; exact W2.2.1 j hj
  · show gX (sX P (ad 6) _) (ad 4) j = _
    rw [gX_sX, if_neg (fun e => absurd (hS.2.2.2.2.1 4 6 (by decide) (by decide) e) (by decide))]; exact W2.2.2 j hj
  · by_cases e : t = nt
    · subst e
      have u := TO.fr tn hf tl.rf (hx.1 a h.1) (fun b u => hx.2 a b h.1 u)
      exact ⟨a, by rw [gY_sY, if_pos rfl, va_up_self], u⟩
    · obtain ⟨u, e2, o2⟩ := w2.1 t (by omega)
      have u3 := TO.fr (TO_t (at_ t (by omega)) o2) hf tl.rf (hx.1 u o2.1) (fun b v => hx.2 u b o2.1 v)
      exact ⟨u, by rw [gY_sY, if_pos rfl, va_up_ne _ _ e]; exact e2, u3⟩
  · show gX (sX P (ad 6) _) (ad 6) k = _
    rw [gX_sX, if_pos rfl]
    unfold fcnt
    rw [(rwT_4 σ nt key o).1]
    by_cases e : k = kk
    · subst e
      rw [pk_us, if_pos ek, if_neg (nI_pos (by omega))]
    · rw [pk_un e, if_neg (fun u => e ((nI_eq (by omega) (by omega)).mp (ek.symm.trans u)).symm), fcnt_t _ nt (fun k h1 h2 => lo k h2 (by omega))]
      exact w2.2 k hk
  · by_cases e : t = nt
    · subst e; exact ⟨_, wn⟩
    · obtain ⟨many, u⟩ := w3.2.2.2 t (by omega)
      exact ⟨many, wfT_t (at_ t (by omega)) u⟩
theorem IV.row (h : IV P c m lv im tr ct as A F n nt np) (hr : ∀ k, k < 154 + 200 * nt → τ k = A 288 k) : NX P P c m lv im tr ct as (uA A τ) F n nt np := by
  obtain ⟨d1, d2, d3, d4, d5, d6⟩ := h.2.2
  have e : ∀ f, f ≠ 288 → uA A τ f = A f := fun f hf => va_up_ne _ _ hf
  exact ⟨KP.rf, h.1, h.2.1, by rw [show uA A τ 288 = τ from va_up_self _ _ _]; exact LV_lo hr d1, d2.cg (e 289 (by decide)) rfl, d3.cg (e 292 (by decide)) (e 293 (by decide)) (e 294 (by decide)), d4.cg (e 295 (by decide)) (e 296 (by decide)) (e 297 (by decide)) (e 298 (by decide)) (e 299 (by decide)), d5.cg (e 315 (by decide)) rfl, d6.cg (e 300 (by decide)) rfl⟩
theorem IV.add {key : Int32} {o : sps} (h : IV P c m lv im tr ct as A F n nt np) (ht : HT P a q r key o) (hn : nt < 14) (hw : wfO key o) (h1 : hL o = 1) (ho : o.length < 96) {kk : Nat} (hkk : kk < 3) (ek : key = nI kk) : NX P (sY (sI (sX P (lv 6) (upd (gX P (lv 6)) kk (nI nt))) 232 (lv 0) (nI (nt + 1))) (lv 5) (va_up (gY P (lv 5)) nt (some a))) c m lv im tr ct as (uA A (rwT (A 288) nt key o)) F n (nt + 1) np := by
  have hC := h.1
  obtain ⟨d1, d2, d3, d4, d5, d6⟩ := h.2.2
  obtain ⟨hf, hLV⟩ := lv_add d1 hC.wl ht hn hw h1 ho hkk ek
  have k := KP.fr (m := m) (as := as) hf (by rintro ⟨i, hi, e⟩; exact (hC.w_c h.2.1.1 hi).2.1 e.symm) (by rintro f hf ⟨i, hi, e⟩; exact ((hC.am hf).2.1 i hi).1 e.symm)
  have nc : ¬ wC lv c := by rintro ⟨i, hi, e⟩; exact (hC.w_c h.2.1.1 hi).1.1 e.symm
  have nct : ∀ i, cIx i → ¬ wC lv (ct i) := by rintro i hi ⟨j, hj, e⟩; exact (hC.wc hj hi).1 e.symm
  have ni : ∀ i, wIx i → ¬ wC lv (im i) := by rintro i hi ⟨j, hj, e⟩; exact (hC.ww hj hi).1 e.symm
  have hx := wC_x hC.wl
  have hC1 := hC.sp hf.1
  have e : ∀ f, f ≠ 288 → uA A (rwT (A 288) nt key o) f = A f := fun f hf => va_up_ne _ _ hf
  refine ⟨k.tr KP.yy, hC1.yy (hC1.wl.k 5 (by decide) rfl) (fun b hb w e => (hk_sp hf.1).mpr ?_), k.mf h.2.1, ?_, ?_, ?_, ?_, ?_, ?_⟩
  · by_cases u : b = nt
    · subst u; rw [va_up_self] at e; rw [← Option.some.inj e]; exact ht.1
    · rw [va_up_ne _ _ u] at e; exact hC.yl b hb w e
  · show LV _ lv (uA A (rwT (A 288) nt key o) 288) n (nt + 1) np
    rw [show uA A (rwT (A 288) nt key o) 288 = rwT (A 288) nt key o from va_up_self _ _ _]
    exact hLV
  · exact ((d2.fr hf nc ni hx).yy (fun q => (hC.ww (i := 5) (j := 5) (by decide) (by decide)).1 q.symm) _).cg (e 289 (by decide)) rfl
  · have dd := d3.fr hf (fun i q => nct i (by unfold cIx; omega))
    exact SH.cg (P := sY _ (lv 5) _) dd (e 292 (by decide)) (e 293 (by decide)) (e 294 (by decide))
  · have dd := d4.fr hf (fun i q => nct i (by unfold cIx; omega))
    exact SL.cg (P := sY _ (lv 5) _) dd (e 295 (by decide)) (e 296 (by decide)) (e 297 (by decide)) (e 298 (by decide)) (e 299 (by decide))
  · have dd := d5.fr hf nc (nct 6 (by decide))
    exact WQ.cg (P := sY _ (lv 5) _) dd (e 315 (by decide)) rfl
  · have dd := d6.fr hf (nct 1 (by decide)) (nct 2 (by decide))
    exact TP.cg (P := sY _ (lv 5) _) dd (e 300 (by decide)) rfl
theorem rdT_wf {tp : Nat → Int32} {L : Nat} (h : ¬ (rdT tp L).1 < 0) : wfO (rdT tp L).1 (rdT tp L).2.2 ∧ hL (rdT tp L).2.2 = 1 ∧ ∃ kk : Nat, kk < 3 ∧ (rdT tp L).1 = nI kk := by
  by_cases h1 : fkey tp (nxt tp L 0 3) < 0
  · exact absurd (by rw [rdT_k h1]; exact (by decide : (-1 : Int32) < 0)) h
  · by_cases h2 : (rdP tp L (fkey tp (nxt tp L 0 3)) 700 0 0 0 (nxs tp L (nxt tp L 0 3)) []).1 = true ∧ (rdP tp L (fkey tp (nxt tp L 0 3)) 700 0 0 0 (nxs tp L (nxt tp L 0 3)) []).2.1.2.2 = 0
    · rw [rdT_y h1 h2.1 h2.2]
      have w := rdP_wf tp L (fkey_3 h1) 700 0 0 0 (nxs tp L (nxt tp L 0 3)) [] (nxt_d _ _ _ _) (nxs_ok tp (nxt_ok tp 3 (Nat.zero_le L)).1).1 h2.1 (wfO.nil _) (fun q => absurd q (by decide)) (by decide)
      refine ⟨w.1, w.2.1, ?_⟩
      rcases fkey_3 h1 with e | e | e
      · exact ⟨0, by decide, e⟩
      · exact ⟨1, by decide, e⟩
      · exact ⟨2, by decide, e⟩
    · exact absurd (by rw [rdT_n h1 h2]; exact (by decide : (-1 : Int32) < 0)) h
theorem IV.tape0 (h : IV P c m lv im tr ct as A F n nt np) : NX P (sI P 129 (ct 1) 0) c m lv im tr ct as A (va_up F 301 0) n nt np := by
  have w := h.2.2.2.2.2.2.2
  have hf : fr (fun b => b = ct 1) P (sI P 129 (ct 1) 0) := fr.sI (T := fun b => b = ct 1) fr.rf rfl _ _
  exact h.tape hf (fun b u => Or.inl u) (fun _ _ => rfl) (fun f hf => va_up_ne _ _ hf) ⟨⟨0, by decide, va_up_self _ _ _⟩, by rw [gI_sI, if_pos ⟨rfl, rfl⟩, va_up_self], w.2.2.1, w.2.2.2⟩
theorem IV.rx (h : IV P c m lv im tr ct as A F n nt np) {L : Nat} (hL : F 301 = nI L) (h96 : L ≤ 96) : RX P ct (A 300) L := by
  have hC := h.1
  have w := h.2.2.2.2.2.2.2
  exact ⟨⟨hC.k 0 (by decide) rfl, hC.k 1 (by decide) rfl, hC.k 2 (by decide) rfl, hC.k 3 (by decide) rfl⟩, ⟨hC.n 2 (by decide) (by decide) rfl, hC.n 3 (by decide) (by decide) rfl⟩, ⟨hC.rt1, hC.rt3, hC.rt2⟩, ⟨w.2.1.trans hL, h96⟩, w.2.2.1, w.2.2.2, ⟨fun e => absurd (hC.inj (by decide) (by decide) e) (by decide), fun e => absurd (hC.inj (by decide) (by decide) e) (by decide)⟩⟩
theorem mkT_ht {S S0 : pS} {tp : Nat → Int32} {key : Int32} {s : tk} {o : sps} (ha : a ∉ gL S) (hq : q ∉ gL (nO S a 5)) (hr : r ∉ gL (nX (nO S a 5) q o.length)) (hP : PRS S S0 ct tp key s o) : HT (mkT S a q r o.length (cntN o) key (gX S (ct 3))) a q r key o := by
  have w := mkT_nw (pcs := cntN o) (key := key) (s := gX S (ct 3)) ha hq hr
  obtain ⟨k1, k2, k3, k4, k5⟩ := mkT_at (pcs := cntN o) (key := key) (s := gX S (ct 3)) hq hr
  exact ⟨w.2.2.1.1, k1, k2, w.2.2.2.1, w.2.2.1.2.1, k3, fun k hk => (k5 k hk).trans (hP.2.2.2.2.2.2.2 k hk), w.2.2.2.2.1, w.2.2.1.2.2, k4⟩
theorem HT.tape {key : Int32} {o : sps} (h : HT P a q r key o) (b : Nat) (v : Int32) : HT (sI P 129 b v) a q r key o := by
  obtain ⟨k1, k2, k3, k4⟩ := h
  exact ⟨k1, by rw [gI_sI, if_neg (by omega)]; exact k2, by rw [gI_sI, if_neg (by omega)]; exact k3, k4⟩
end ROW
set_option maxRecDepth 100000 in
set_option maxHeartbeats 1000000 in
theorem w_addText {x : pX} {d : Nat} {S : pS} {Q : Int32 → pS → Prop} {lv : Nat → Nat} {σ : Nat → Int32} {a nt kk : Nat} (hS : WS S lv) (hW : WR S lv σ) (ht : σ 1 = nI nt) (hn : nt < 14) (ha : hk S a 5) (ek : gI S 160 a = nI kk) (hkk : kk < 3) (h : Q (nI nt) (sI (sX (sY S (lv 5) (va_up (gY S (lv 5)) nt (some a))) (lv 6) (upd (gX S (lv 6)) kk (nI nt))) 232 (lv 0) (nI (nt + 1)))) : PI x (d + 2) M_X7_addText [.ref ((lv 0)), .ref a] S Q := by
  refine PM_of (by decide +kernel) (Nat.le_of_ble_eq_true rfl) ?_
  show V x (d + 2) M_X7_addText (qi Q) (0, 0) 0 [(0, .ref ((lv 0))), (1, .ref a)] [] S
  refine V_aln (pc := 0) dX7_addText_0 rfl rfl ?_
  refine V_gie (pc := 1) 7 8 232 dX7_addText_1 (FL_X7_78 rfl) rfl rfl (hS.k 0 (by decide) rfl) (hW.1 232 0 1 (by decide)) ?_
  refine V_bipush (pc := 4) (v := 14) dX7_addText_4 (by decide) ?_
  refine V_clt (pc := 6) (t := 12) dX7_addText_6 (by decide) (fun h6 => ?_) (fun h6 => ?_)
  · refine V_aln (pc := 12) dX7_addText_12 rfl rfl ?_
    refine V_gr (pc := 13) 7 7 231 dX7_addText_13 (FL_X7_34 rfl) rfl rfl (hS.k 0 (by decide) rfl) hS.2.2.1.2.2.2.1 ?_
    refine V_aln (pc := 16) dX7_addText_16 rfl rfl ?_
    refine V_gie (pc := 17) 7 8 232 dX7_addText_17 (FL_X7_78 rfl) rfl rfl (hS.k 0 (by decide) rfl) (hW.1 232 0 1 (by decide)) ?_
    refine V_aln (pc := 20) dX7_addText_20 rfl rfl ?_
    refine V_aas (pc := 21) (N := 14) 13 5 nt dX7_addText_21 (by decide) (by decide) (by decide) rfl (hS.k 5 (by decide) rfl) ha (hS.2.1 5 (by decide)) (by decide) ht hn ?_
    refine V_aln (pc := 22) dX7_addText_22 rfl rfl ?_
    refine V_gie (pc := 23) 5 0 160 dX7_addText_23 (FL_X7_185 rfl) rfl rfl ha ek ?_
    refine V_iconst (pc := 26) (v := 0) dX7_addText_26 (by decide) ?_
    refine V_iconst (pc := 27) (v := 2) dX7_addText_27 (by decide) ?_
    refine V_cSi0 (pc := 28) (jc_X7_105 dX7_addText_28 rfl) rfl rfl (Nat.le_of_ble_eq_true rfl) ?_
    refine c_within 0 2 (by decide) (by decide) (fun a1 a2 => ?_) (fun a0 => ?_)
    · refine V_eq (pc := 31) (t := 47) dX7_addText_31 (by decide) (fun h => absurd h (by decide)) (fun _ => ?_)
      refine V_aln (pc := 34) dX7_addText_34 rfl rfl ?_
      refine V_gr (pc := 35) 7 9 233 dX7_addText_35 (FL_X7_39 rfl) rfl rfl (hS.k 0 (by decide) rfl) hS.2.2.1.2.2.2.2.1 ?_
      refine V_aln (pc := 38) dX7_addText_38 rfl rfl ?_
      refine V_gie (pc := 39) 5 0 160 dX7_addText_39 (FL_X7_185 rfl) rfl rfl ha ek ?_
      refine V_aln (pc := 42) dX7_addText_42 rfl rfl ?_
      refine V_gie (pc := 43) 7 8 232 dX7_addText_43 (FL_X7_78 rfl) rfl rfl (hS.k 0 (by decide) rfl) (hW.1 232 0 1 (by decide)) ?_
      refine V_ias (pc := 46) (N := 3) kk dX7_addText_46 (hS.k 6 (by decide) rfl) (hS.2.1 6 (by decide)) (by decide) rfl hkk ?_
      refine V_aln (pc := 47) dX7_addText_47 rfl rfl ?_
      refine V_dup (pc := 48) dX7_addText_48 rfl ?_
      refine V_gie (pc := 49) 7 8 232 dX7_addText_49 (FL_X7_78 rfl) rfl rfl (hS.k 0 (by decide) rfl) (hW.1 232 0 1 (by decide)) ?_
      refine V_iconst (pc := 52) (v := 1) dX7_addText_52 (by decide) ?_
      refine V_iadd (pc := 53) dX7_addText_53 ?_
      refine V_pi (pc := 54) 7 8 232 dX7_addText_54 (FL_X7_78 rfl) rfl rfl rfl (hS.k 0 (by decide) rfl) ?_
      have hW54 := hW.I hS (f := 232) (i := 0) (k := 1) (by unfold cI; omega) (((σ 1) + 1))
      have hF54 := (wfr.rf (ad := lv) (P := S)).I (i := 0) (by unfold wIx; omega) (by omega) (by omega) 232 (((σ 1) + 1))
      refine V_aln (pc := 57) dX7_addText_57 rfl rfl ?_
      refine V_gie (pc := 58) 7 8 232 dX7_addText_58 (FL_X7_78 rfl) rfl rfl (hS.k 0 (by decide) rfl) (hW54.1 232 0 1 (by decide)) ?_
      refine V_iconst (pc := 61) (v := 1) dX7_addText_61 (by decide) ?_
      refine V_isub (pc := 62) dX7_addText_62 ?_
      refine V_iret (pc := 63) dX7_addText_63 rfl rfl ?_
      have e : upd σ 1 (σ 1 + 1) 1 - 1 = nI nt := by rw [pk_us, ht]; exact Int32.add_sub_cancel _ _
      rw [e, ht, nI_1]
      exact h
    · exact absurd ⟨by rw [nI_toInt (by omega)]; omega, by rw [nI_toInt (by omega)]; omega⟩ a0
  · exact absurd (by rw [ht]; exact Int32.not_le.mp (nI_ge hn (by decide))) h6
set_option maxRecDepth 100000 in
set_option maxHeartbeats 1000000 in
theorem C_text {x : pX} {d : Nat} {S : pS} {Q : Int32 → pS → Prop} {cc m : Nat} {lv im tr ct as : Nat → Nat} {A : Nat → Nat → Int32} {F : Nat → Int32} {n nt np : Nat} (hI : IV S cc m lv im tr ct as A F n nt np) (hx : XS x) {L : Nat} (hL : F 301 = nI L) (h96 : L ≤ 96) (h : ∀ S2 n2 nt2 np2, NX S S2 cc m lv im tr ct as (uA A (o_text (A 288) (A 300) L nt).2) (va_up F 301 0) n2 nt2 np2 → Q ((o_text (A 288) (A 300) L nt).1) S2) : PI x (d + 731) M_X8_text [.ref cc] S Q := by
  have hC := hI.1
  have hMF := hI.2.1
  have hS := hC.wl
  have hW := hI.2.2.1.1
  have hX := hI.2.2.1.2.1
  have hMI := hI.2.2.1.2.2.1
  have hV := hI.2.2.1.2.2.2
  have hn := hMI.1.1
  have hn10 := hMI.1.2
  have ht := hMI.2.1.1
  have ht14 := hMI.2.1.2
  have hp := hMI.2.2.1.1
  have hp20 := hMI.2.2.1.2
  have hRX := hI.rx hL h96
  refine PM_of (by decide +kernel) (Nat.le_of_ble_eq_true rfl) ?_
  show V x (d + 731) M_X8_text (qi Q) (3, 196) 0 [(0, .ref cc)] [] S
  refine V_aln (pc := 0) dX8_text_0 rfl rfl ?_
  refine V_gr (pc := 1) 8 4 260 dX8_text_1 (FL_X8_25 rfl) rfl rfl hC.1 hC.r0 ?_
  refine V_cVr (pc := 4) (jc_X8_220 dX8_text_4 rfl) rfl (Nat.le_of_ble_eq_true rfl) (hC.k 0 (by decide) rfl) (Nat.le_of_ble_eq_true rfl) (Nat.le_of_ble_eq_true rfl) ?_
  refine r_readTape hRX hx (fun pos lo S2 P2 a q r ha hq hr => ?_) (fun neg S2 P2 => ?_)
  · have n2 := hI.reader P2.1
    have n3 := n2.tt (n2.2.ext (mkT_nw (n := (rdT (A 300) L).2.2.length) (pcs := cntN (rdT (A 300) L).2.2) (key := (rdT (A 300) L).1) (s := gX S2 (ct 3)) ha hq hr))
    have ht3 := mkT_ht ha hq hr P2
    obtain ⟨S3, eS3⟩ : ∃ Z, Z = mkT S2 a q r (rdT (A 300) L).2.2.length (cntN (rdT (A 300) L).2.2) (rdT (A 300) L).1 (gX S2 (ct 3)) := ⟨_, rfl⟩
    rw [← eS3] at n3 ht3 ⊢
    have hC3 := n3.2.1
    obtain ⟨wf, h1, kk, hkk, ekk⟩ := rdT_wf pos
    refine V_asn (pc := 7) (ls' := [(0, .ref cc), (1, .ref a)]) dX8_text_7 rfl (by decide) rfl ?_
    refine V_aln (pc := 8) dX8_text_8 rfl rfl ?_
    refine V_gr (pc := 9) 8 5 261 dX8_text_9 (FL_X8_33 rfl) rfl rfl hC3.1 hC3.r1 ?_
    refine V_iconst (pc := 12) (v := 0) dX8_text_12 (by decide) ?_
    refine V_pi (pc := 13) 4 1 129 dX8_text_13 (FL_X8_212 rfl) rfl rfl rfl (hC3.k 1 (by decide) rfl) ?_
    have n4 := n3.tt n3.2.tape0
    have hC4 := n4.2.1
    have hS4 := hC4.wl
    have hW4 := n4.2.2.2.1.1
    have F4 : (va_up F 301 0) 301 = (0 : Int32) := va_up_self _ _ _
    refine V_aln (pc := 16) dX8_text_16 rfl rfl ?_
    refine V_ifnonnull (pc := 17) (t := 31) dX8_text_17 (by decide) ?_
    refine V_aln (pc := 31) dX8_text_31 rfl rfl ?_
    refine V_gr (pc := 32) 8 0 256 dX8_text_32 (FL_X8_10 rfl) rfl rfl hC3.1 hC3.rl ?_
    refine V_gie (pc := 35) 7 8 232 dX8_text_35 (FL_X8_227 rfl) rfl rfl (hS4.k 0 (by decide) rfl) (hW4.1 232 0 1 (by decide)) ?_
    refine V_bipush (pc := 38) (v := 14) dX8_text_38 (by decide) ?_
    refine V_clt (pc := 40) (t := 46) dX8_text_40 (by decide) (fun h40 => ?_) (fun h40 => ?_)
    · have n14 : nt < 14 := Nat.lt_of_not_le (fun q => absurd h40 (Int32.not_lt.mpr (by rw [ht]; exact nI_le (a := 14) q (by omega))))
      have ht4 := ht3.tape (ct 1) 0
      refine V_aln (pc := 46) dX8_text_46 rfl rfl ?_
      refine V_gr (pc := 47) 8 0 256 dX8_text_47 (FL_X8_10 rfl) rfl rfl hC3.1 hC3.rl ?_
      refine V_aln (pc := 50) dX8_text_50 rfl rfl ?_
      refine V_cVi0 (pc := 51) (jc_X8_230 dX8_text_51 rfl) rfl rfl (Nat.le_of_ble_eq_true rfl) (hS4.k 0 (by decide) rfl) ?_
      refine w_addText hS4 hW4 ht n14 ht4.1 (ht4.2.1.trans ekk) hkk ?_
      refine V_iret (pc := 54) dX8_text_54 rfl rfl ?_
      have e : (o_text (A 288) (A 300) L nt) = (nI nt, rwT (A 288) nt (rdT (A 300) L).1 (rdT (A 300) L).2.2) := by unfold o_text rwT; rw [if_neg pos, if_neg (by omega)]
      rw [e] at h
      exact h _ _ _ _ (n4.tt (n4.2.add ht4 n14 wf h1 lo hkk ekk))
    · have e14 : nt = 14 := Nat.le_antisymm ht14 (Nat.le_of_not_lt (fun q => h40 (by rw [ht]; exact Int32.not_le.mp (nI_ge q (by decide)))))
      refine V_ldc (pc := 43) dX8_text_43 (KC_X8_65 rfl) ?_
      refine V_iret (pc := 45) dX8_text_45 rfl rfl ?_
      have e : (o_text (A 288) (A 300) L nt) = (-1000000003, stl (A 288) (zAt nt) (rdT (A 300) L).2.2) := by unfold o_text; rw [if_neg pos, if_pos e14]
      rw [e] at h
      exact h _ _ _ _ (n4.tt (n4.2.row (fun k hk => stl_lo _ _ ht14 _ (by omega) (by omega))))
  · have n3 := hI.reader P2.1
    obtain ⟨S3, eS3⟩ : ∃ Z, Z = S2 := ⟨_, rfl⟩
    rw [← eS3] at n3 P2 ⊢
    have hC3 := n3.2.1
    refine V_asnN (pc := 7) (ls' := [(0, .ref cc), (1, .null)]) dX8_text_7 rfl (by decide) rfl ?_
    refine V_aln (pc := 8) dX8_text_8 rfl rfl ?_
    refine V_gr (pc := 9) 8 5 261 dX8_text_9 (FL_X8_33 rfl) rfl rfl hC3.1 hC3.r1 ?_
    refine V_iconst (pc := 12) (v := 0) dX8_text_12 (by decide) ?_
    refine V_pi (pc := 13) 4 1 129 dX8_text_13 (FL_X8_212 rfl) rfl rfl rfl (hC3.k 1 (by decide) rfl) ?_
    have n4 := n3.tt n3.2.tape0
    have hC4 := n4.2.1
    have hS4 := hC4.wl
    have hW4 := n4.2.2.2.1.1
    have F4 : (va_up F 301 0) 301 = (0 : Int32) := va_up_self _ _ _
    refine V_alNn (pc := 16) dX8_text_16 rfl rfl ?_
    refine V_ifnonnullN (pc := 17) (t := 31) dX8_text_17 (by decide) ?_
    refine V_bipush (pc := 20) (v := (-100)) dX8_text_20 (by decide) ?_
    refine V_aln (pc := 22) dX8_text_22 rfl rfl ?_
    refine V_gr (pc := 23) 8 4 260 dX8_text_23 (FL_X8_25 rfl) rfl rfl hC3.1 hC3.r0 ?_
    refine V_cVi0 (pc := 26) (jc_X8_224 dX8_text_26 rfl) rfl rfl (Nat.le_of_ble_eq_true rfl) (hC4.k 0 (by decide) rfl) ?_
    refine r_faultPlace (hC4.k 0 (by decide) rfl) P2.2.1.2 (by rw [gI_sI, if_neg (by omega)]; exact P2.2.1.1) ?_
    refine V_isub (pc := 29) dX8_text_29 ?_
    refine V_iret (pc := 30) dX8_text_30 rfl rfl ?_
    have e : (o_text (A 288) (A 300) L nt) = (-100 - nI (rdT (A 300) L).2.1.1, stl (A 288) (zAt nt) (rdT (A 300) L).2.2) := by unfold o_text; rw [if_pos neg]
    rw [e] at h
    exact h _ _ _ _ (n4.tt (n4.2.row (fun k hk => stl_lo _ _ ht14 _ (by omega) (by omega))))
