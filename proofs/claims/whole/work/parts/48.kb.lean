/-! ===== what a World's becoming as another leaves ===== -/
theorem gY_sY (P : pS) (y : Nat) (r : Nat → Option Nat) (a : Nat) : gY (sY P y r) a = if a = y then r else gY P a := rfl
section YS
variable {P P' : pS} {c m : Nat} {lv im tr ct as ad bd : Nat → Nat} {A A' : Nat → Nat → Int32} {F F' : Nat → Int32} {n nt np : Nat} {T : Nat → Prop} {y : Nat} {r : Nat → Option Nat} {σ τ : Nat → Int32}
theorem WS.yy (h : WS P ad) (hy : hk P y 13) (r : Nat → Option Nat) : WS (sY P y r) ad := ⟨h.1, h.2.1, h.2.2.1, fun i hi => by rw [gY_sY, if_neg (hk_ne (h.k 1 (by decide) rfl) hy (by decide))]; exact h.2.2.2.1 i hi, h.2.2.2.2.1, h.2.2.2.2.2.1, h.2.2.2.2.2.2⟩
theorem WY.yy (h : WY P ad) (hr : ∀ k, k < 14 → ∀ q, r k = some q → hk P q 5) : WY (sY P y r) ad := fun k hk q e => by
  rw [gY_sY] at e
  by_cases w : ad 5 = y
  · rw [if_pos w] at e; exact hr k hk q e
  · rw [if_neg w] at e; exact h k hk q e
theorem CS.yy (h : CS P c lv im tr ct as) (hy : hk P y 13) (hr : ∀ k, k < 14 → ∀ q, r k = some q → hk P q 5) : CS (sY P y r) c lv im tr ct as := by
  obtain ⟨h1, h2, h3, h4, h5, h6, h7, h8, h9, h10, h11⟩ := h
  refine ⟨h1, h2, h3, fun k hk => ?_, fun k hk => ?_, h6, ⟨⟨h7.1.1.yy hy r, h7.1.2.1.yy hy r, h7.1.2.2.yy hy r⟩, h7.2.1.yy hr, h7.2.2.1.yy hr, h7.2.2.2.yy hr⟩, h8, h9, h10, h11⟩
  · rw [gY_sY, if_neg (hk_ne (h2 4 (by decide)).1 hy (by decide))]; exact h4 k hk
  · rw [gY_sY, if_neg (hk_ne (h2 5 (by decide)).1 hy (by decide))]; exact h5 k hk
theorem TX.yy (h : TX P ad σ nt) (hne : ad 5 ≠ y) (r : Nat → Option Nat) : TX (sY P y r) ad σ nt := ⟨fun t ht => by obtain ⟨q, e, o⟩ := h.1 t ht; exact ⟨q, by rw [gY_sY, if_neg hne]; exact e, o⟩, h.2⟩
theorem LV.yy (h : LV P ad σ n nt np) (hne : ad 5 ≠ y) (r : Nat → Option Nat) : LV (sY P y r) ad σ n nt np := ⟨h.1, h.2.1.yy hne r, h.2.2⟩
theorem KP.yy : KP m as P (sY P y r) := fun _ h => ⟨h, rfl, rfl, fun _ => rfl, fun _ => ⟨fun _ => rfl, rfl⟩⟩
theorem wC_x (h : WS P ad) : nT P (wC ad) := by
  refine ⟨fun q hq ⟨i, hi, e⟩ => ?_, fun q a hq r ⟨i, hi, e⟩ => ?_⟩
  · exact (wK_ne i).2.2.1 ((h.1 i hi).2.symm.trans (by rw [← e]; exact hq.2))
  · exact (h.2.2.2.2.2.2 q a hq r).2 i hi e
/-! rows alike in their first 2954 numbers -/
def a29 (σ τ : Nat → Int32) : Prop := ∀ k, k < 2954 → τ k = σ k
theorem hgt_29 (h : a29 σ τ) {t : Nat} (ht : t < 14) : ∀ k, k ≤ 98 → hgt τ t k = hgt σ t k
  | 0, _ => rfl
  | k + 1, hk => by
    unfold hgt
    rw [h _ (by omega), h _ (by omega), hgt_29 h ht k (by omega)]
theorem wfT_29 (h : a29 σ τ) {t many : Nat} (ht : t < 14) (hw : wfT σ t many) : wfT τ t many := by
  unfold wfT at *
  have h98 := hw.2.2.1
  rw [h _ (by omega), hgt_29 h ht many h98]
  refine ⟨hw.1, hw.2.1, hw.2.2.1, fun k hk => ?_, hw.2.2.2.2⟩
  rw [hgt_29 h ht k (by omega), h _ (by omega), h _ (by omega), h _ (by omega)]
  exact hw.2.2.2.1 k hk
theorem fcnt_29 (h : a29 σ τ) (key : Int32) : ∀ nt, nt ≤ 14 → fcnt τ key nt = fcnt σ key nt
  | 0, _ => rfl
  | nt + 1, hn => by unfold fcnt; rw [h _ (by omega), fcnt_29 h key nt (by omega)]
theorem TO_29 (h : a29 σ τ) {q t : Nat} (ht : t < 14) (o : TO P q σ t) : TO P q τ t := by
  obtain ⟨q1, q2, q3, a, c, many, pcs, r1, r2, r3, r4, r5, r6, r7, r8, r9, r10, r11, r12, r13, r14⟩ := o
  have h98 := r4.2.2.1
  refine ⟨q1, by rw [h _ (by omega)]; exact q2, by rw [h _ (by omega)]; exact q3, a, c, many, pcs, r1, r2, r3, wfT_29 h ht r4, fun k hk => ?_, r6, r7, r8, by rw [h _ (by omega)]; exact r9, r10, fun k hk => ?_, fun k hk => ?_, fun k hk => ?_, ?_⟩
  · rw [h _ (by omega), h _ (by omega), h _ (by omega)]; exact r5 k hk
  · rw [h _ (by omega), hgt_29 h ht k (by omega)]; exact r11 k hk
  · rw [h _ (by omega), h _ (by omega)]; exact r12 k hk
  · rw [h _ (by omega), h _ (by omega)]; exact r13 k hk
  · rw [h _ (by omega)]; exact r14
theorem WR_29 (h : a29 σ τ) (w : WR P ad σ) : WR P ad τ := ⟨fun f i k c => by rw [h k (by unfold cI at c; omega)]; exact w.1 f i k c, fun j hj => by rw [h _ (by omega)]; exact w.2.1 j hj, fun j hj => by rw [h _ (by omega)]; exact w.2.2 j hj⟩
theorem LV_29 (h : a29 σ τ) (w : LV P ad σ n nt np) : LV P ad τ n nt np := by
  obtain ⟨w1, w2, w3, w4⟩ := w
  have h14 := w3.2.1.2
  have h10 := w3.1.2
  refine ⟨WR_29 h w1, ⟨fun t ht => ?_, fun k hk => ?_⟩, ⟨⟨by rw [h 0 (by decide)]; exact w3.1.1, w3.1.2⟩, ⟨by rw [h 1 (by decide)]; exact w3.2.1.1, w3.2.1.2⟩, ⟨by rw [h 5 (by decide)]; exact w3.2.2.1.1, w3.2.2.1.2⟩, fun t ht => ?_⟩, ⟨fun i hi => ?_, ?_⟩⟩
  · obtain ⟨q, e, o⟩ := w2.1 t ht
    exact ⟨q, e, TO_29 h (by omega) o⟩
  · rw [fcnt_29 h _ _ h14]; exact w2.2 k hk
  · obtain ⟨many, q⟩ := w3.2.2.2 t ht
    exact ⟨many, wfT_29 h (by omega) q⟩
  · rw [h _ (by omega), h _ (by omega), h _ (by omega)]; exact w4.1 i hi
  · rw [h 2 (by decide)]; exact w4.2
/-- what a World holds goes over to another -/
theorem lv_move (h : LV P bd τ n nt np) (hA : WS P ad) (hf : fr (wC ad) P P') (hW : WR P' ad τ) (h6 : ∀ j, j < 3 → gX P' (ad 6) j = gX P (bd 6) j) (hr : ∀ k, k < 14 → r k = gY P (bd 5) k) : LV (sY P' (ad 5) r) ad τ n nt np := by
  have hx := wC_x hA
  have h14 := h.2.2.1.2.1.2
  refine ⟨hW, ⟨fun t ht => ?_, fun k hk => ?_⟩, h.2.2⟩
  · obtain ⟨q, e, o⟩ := h.2.1.1 t ht
    exact ⟨q, by rw [gY_sY, if_pos rfl, hr t (by omega)]; exact e, TO.fr (P' := P') o hf tl.rf (hx.1 q o.1) (fun a w => hx.2 q a o.1 w)⟩
  · exact (h6 k hk).trans (h.2.1.2 k hk)
theorem IV.away (h : IV P c m lv im tr ct as A F n nt np) (hf : fr T P P') (hc : ¬ T c) (hl : ∀ i, wIx i → ¬ T (lv i)) (hi : ∀ i, wIx i → ¬ T (im i)) (ht : ∀ i, cIx i → ¬ T (ct i)) (hx : nT P T) (hm : ¬ T m) (ha : ∀ f, f ∈ AF → ¬ T (as f)) : NX P P' c m lv im tr ct as A F n nt np := by
  have k := KP.fr (m := m) (as := as) hf hm ha
  exact ⟨k, h.1.sp hf.1, k.mf h.2.1, h.2.2.fr hf hc hl hi ht hx⟩
theorem CS.w_c (h : CS P c lv im tr ct as) (hm : hk P m 9) {i : Nat} (hi : wIx i) : (lv i ≠ c ∧ im i ≠ c ∧ tr i ≠ c) ∧ lv i ≠ m ∧ im i ≠ m ∧ tr i ≠ m := by
  have q : ∀ ad : Nat → Nat, WS P ad → ad i ≠ c ∧ ad i ≠ m := fun ad w => ⟨fun e => (wK_ne i).1 ((w.1 i hi).2.symm.trans (by rw [e]; exact h.1.2)), fun e => (wK_ne i).2.1 ((w.1 i hi).2.symm.trans (by rw [e]; exact hm.2))⟩
  exact ⟨⟨(q lv h.wl).1, (q im h.wi).1, (q tr h.wt).1⟩, (q lv h.wl).2, (q im h.wi).2, (q tr h.wt).2⟩
theorem NX.tt {P1 : pS} {n1 nt1 np1 : Nat} {A1 : Nat → Nat → Int32} {F1 : Nat → Int32} (h : NX P P1 c m lv im tr ct as A1 F1 n1 nt1 np1) (h2 : NX P1 P' c m lv im tr ct as A F n nt np) : NX P P' c m lv im tr ct as A F n nt np := ⟨h.1.tr h2.1, h2.2⟩
/-- the World of trials is another's business -/
theorem IV.trC (h : IV P c m lv im tr ct as A F n nt np) (hf : fr (wC tr) P P') : NX P P' c m lv im tr ct as A F n nt np := by
  refine h.away hf ?_ ?_ ?_ ?_ (wC_x h.1.wt) ?_ ?_
  · rintro ⟨i, hi, e⟩; exact (h.1.w_c h.2.1.1 hi).1.2.2 e.symm
  · rintro i hi ⟨j, hj, e⟩; exact (h.1.ww hi hj).2.1 e
  · rintro i hi ⟨j, hj, e⟩; exact (h.1.ww hi hj).2.2 e
  · rintro i hi ⟨j, hj, e⟩; exact (h.1.wc hj hi).2.2 e.symm
  · rintro ⟨i, hi, e⟩; exact (h.1.w_c h.2.1.1 hi).2.2.2 e.symm
  · rintro f hf ⟨i, hi, e⟩; exact ((h.1.am hf).2.1 i hi).2.2 e.symm
theorem IV.trT (h : IV P c m lv im tr ct as A F n nt np) (hf : wfr tr P P') : NX P P' c m lv im tr ct as A F n nt np := by
  refine h.away hf ?_ ?_ ?_ ?_ ⟨fun q w => wT_5 h.1.wt w, fun q a w r => wT_162 h.1.wt w r⟩ ?_ ?_
  · rintro (q | ⟨i, hi, -, -, e⟩)
    · exact h.1.c_s q
    · exact (h.1.w_c h.2.1.1 hi).1.2.2 e.symm
  · rintro i hi (q | ⟨j, hj, -, -, e⟩)
    · exact (h.1.wl.2.2.2.2.2.1 _ q).2 i hi rfl
    · exact (h.1.ww hi hj).2.1 e
  · rintro i hi (q | ⟨j, hj, -, -, e⟩)
    · exact (h.1.wi.2.2.2.2.2.1 _ q).2 i hi rfl
    · exact (h.1.ww hi hj).2.2 e
  · rintro i hi (q | ⟨j, hj, -, -, e⟩)
    · exact (h.1.sk q).2.1 i hi rfl
    · exact (h.1.wc hj hi).2.2 e.symm
  · rintro (q | ⟨i, hi, -, -, e⟩)
    · exact hk_ne h.2.1.1 (h.1.sk q).1 (by decide) rfl
    · exact (h.1.w_c h.2.1.1 hi).2.2.2 e.symm
  · rintro f hf (q | ⟨i, hi, -, -, e⟩)
    · exact (h.1.sk q).2.2 f hf rfl
    · exact ((h.1.am hf).2.1 i hi).2.2 e.symm
theorem IM.yy (h : IM P c im A F) (hne : im 5 ≠ y) (r : Nat → Option Nat) : IM (sY P y r) c im A F := by
  refine ⟨h.1, ?_⟩
  rcases h.2 with q | ⟨q, n, nt, np, w⟩
  · exact Or.inl q
  · exact Or.inr ⟨q, n, nt, np, fun τ e => (w τ e).yy hne r⟩
theorem IV.trY (h : IV P c m lv im tr ct as A F n nt np) (hr : ∀ k, k < 14 → ∀ q, r k = some q → hk P q 5) : NX P (sY P (tr 5) r) c m lv im tr ct as A F n nt np := by
  have w := (h.1.ww (i := 5) (j := 5) (by decide) (by decide))
  obtain ⟨d1, d2, d3⟩ := h.2.2
  exact ⟨KP.yy, h.1.yy (h.1.wt.k 5 (by decide) rfl) hr, h.2.1, d1.yy w.2.1 r, d2.yy w.2.2 r, d3⟩
/-- back: the live World becomes as the image -/
theorem IV.back (h : IV P c m lv im tr ct as A F n nt np) {n2 nt2 np2 : Nat} (hL : LV P im τ n2 nt2 np2) (hf : fr (wC lv) P P') (hW : WR P' lv τ) (h6 : ∀ j, j < 3 → gX P' (lv 6) j = gX P (im 6) j) (hr : ∀ k, k < 14 → r k = gY P (im 5) k) : NX P (sY P' (lv 5) r) c m lv im tr ct as (uA A τ) F n2 nt2 np2 := by
  have hC := h.1
  have k := KP.fr (m := m) (as := as) hf (by rintro ⟨i, hi, e⟩; exact (hC.w_c h.2.1.1 hi).2.1 e.symm) (by rintro f hf ⟨i, hi, e⟩; exact ((hC.am hf).2.1 i hi).1 e.symm)
  have nc : ¬ wC lv c := by rintro ⟨i, hi, e⟩; exact (hC.w_c h.2.1.1 hi).1.1 e.symm
  have nt : ∀ i, cIx i → ¬ wC lv (ct i) := by rintro i hi ⟨j, hj, e⟩; exact (hC.wc hj hi).1 e.symm
  have ni : ∀ i, wIx i → ¬ wC lv (im i) := by rintro i hi ⟨j, hj, e⟩; exact (hC.ww hj hi).1 e.symm
  have hx := wC_x hC.wl
  have hC1 := hC.sp hf.1
  obtain ⟨d1, d2, d3, d4, d5, d6⟩ := h.2.2
  have e : ∀ f, f ≠ 288 → uA A τ f = A f := fun f hf => va_up_ne _ _ hf
  refine ⟨k.tr KP.yy, hC1.yy (hC1.wl.k 5 (by decide) rfl) (fun q hq w e => (hk_sp hf.1).mpr (hC.yi q hq w (by rw [← hr q hq]; exact e))), k.mf h.2.1, ?_, ?_, ?_, ?_, ?_, ?_⟩
  · show LV _ lv (uA A τ 288) n2 nt2 np2
    rw [show uA A τ 288 = τ from va_up_self _ _ _]
    exact lv_move hL hC.wl hf hW h6 hr
  · exact ((d2.fr hf nc ni hx).yy (fun q => (hC.ww (i := 5) (j := 5) (by decide) (by decide)).1 q.symm) r).cg (e 289 (by decide)) rfl
  · exact SH.cg (P := sY P' (lv 5) r) (d3.fr (P' := P') hf (fun i q => nt i (by unfold cIx; omega))) (e 292 (by decide)) (e 293 (by decide)) (e 294 (by decide))
  · exact SL.cg (P := sY P' (lv 5) r) (d4.fr (P' := P') hf (fun i q => nt i (by unfold cIx; omega))) (e 295 (by decide)) (e 296 (by decide)) (e 297 (by decide)) (e 298 (by decide)) (e 299 (by decide))
  · exact WQ.cg (P := sY P' (lv 5) r) (d5.fr (P' := P') hf nc (nt 6 (by decide))) (e 315 (by decide)) rfl
  · exact TP.cg (P := sY P' (lv 5) r) (d6.fr (P' := P') hf (nt 1 (by decide)) (nt 2 (by decide))) (e 300 (by decide)) rfl
/-- keep: the image becomes as the live World -/
theorem IV.keep (h : IV P c m lv im tr ct as A F n nt np) (hf : fr (wC im) P P') (hW : WR P' im (A 288)) (h6 : ∀ j, j < 3 → gX P' (im 6) j = gX P (lv 6) j) (hr : ∀ k, k < 14 → r k = gY P (lv 5) k) : NX P (sI (sY P' (im 5) r) 259 c 1) c m lv im tr ct as (va_up A 289 (lyd (A 288) (A 289) 2954)) (va_up F 291 1) n nt np := by
  have hC := h.1
  have k := KP.fr (m := m) (as := as) hf (by rintro ⟨i, hi, e⟩; exact (hC.w_c h.2.1.1 hi).2.2.1 e.symm) (by rintro f hf ⟨i, hi, e⟩; exact ((hC.am hf).2.1 i hi).2.1 e.symm)
  have nc : ¬ wC im c := by rintro ⟨i, hi, e⟩; exact (hC.w_c h.2.1.1 hi).1.2.1 e.symm
  have nct : ∀ i, cIx i → ¬ wC im (ct i) := by rintro i hi ⟨j, hj, e⟩; exact (hC.wc hj hi).2.1 e.symm
  have nl : ∀ i, wIx i → ¬ wC im (lv i) := by rintro i hi ⟨j, hj, e⟩; exact (hC.ww hi hj).1 e
  have hx := wC_x hC.wi
  have hC1 := hC.sp hf.1
  have hC2 := hC1.yy (y := im 5) (r := r) (hC1.wi.k 5 (by decide) rfl) (fun q hq w e => (hk_sp hf.1).mpr (hC.yl q hq w (by rw [← hr q hq]; exact e)))
  obtain ⟨d1, d2, d3, d4, d5, d6⟩ := h.2.2
  have eA : ∀ f, f ≠ 289 → va_up A 289 (lyd (A 288) (A 289) 2954) f = A f := fun f hf => va_up_ne _ _ hf
  have eF : ∀ f, f ≠ 291 → va_up F 291 1 f = F f := fun f hf => va_up_ne _ _ hf
  have f3 : fr (fun b => b = c) (sY P' (im 5) r) (sI (sY P' (im 5) r) 259 c 1) := (fr.rf (T := fun b => b = c)).sI (a := c) rfl 259 1
  have hO : oT c ct (fun b => b = c) := fun a q => Or.inl q
  have l1 : LV (sY P' (im 5) r) lv (A 288) n nt np := (d1.fr hf nl hx).yy (hC.ww (i := 5) (j := 5) (by decide) (by decide)).1 r
  have l2 : LV (sY P' (im 5) r) im (A 288) n nt np := lv_move d1 hC.wi hf hW h6 hr
  refine ⟨(k.tr KP.yy).tr (KP.fr f3 (CS.o_m (T := fun b => b = c) hC2 hO (k.mf h.2.1).1) (fun f q => CS.o_a (T := fun b => b = c) hC2 hO q)), hC2.sp f3.1, k.mf h.2.1, ?_, ⟨?_, Or.inr ⟨va_up_self _ _ _, n, nt, np, fun τ e => ?_⟩⟩, ?_, ?_, ?_, ?_⟩
  · rw [eA 288 (by decide)]
    exact l1.fr f3 (fun i hi => (hC2.o_w hO i hi).1) (hC2.o_x hO)
  · rw [gI_sI, if_pos ⟨rfl, rfl⟩, va_up_self]
  · refine LV_29 (σ := A 288) (fun q hq => ?_) (l2.fr f3 (fun i hi => (hC2.o_w hO i hi).2.1) (hC2.o_x hO))
    rw [e q hq, va_up_self]; unfold lyd; rw [if_pos hq]
  · exact SH.cg (P := sI (sY P' (im 5) r) 259 c 1) (SH.fr (P := sY P' (im 5) r) (d3.fr (P' := P') hf (fun i q => nct i (by unfold cIx; omega))) f3 (fun i q => hC2.cne (by unfold cIx; omega))) (eA 292 (by decide)) (eA 293 (by decide)) (eA 294 (by decide))
  · exact SL.cg (P := sI (sY P' (im 5) r) 259 c 1) (SL.fr (P := sY P' (im 5) r) (d4.fr (P' := P') hf (fun i q => nct i (by unfold cIx; omega))) f3 (fun i q => hC2.cne (by unfold cIx; omega))) (eA 295 (by decide)) (eA 296 (by decide)) (eA 297 (by decide)) (eA 298 (by decide)) (eA 299 (by decide))
  · exact WQ.cg (P := sI (sY P' (im 5) r) 259 c 1) (wq_fr2 (P := sY P' (im 5) r) (d5.fr (P' := P') hf nc (nct 6 (by decide))) f3 (by rw [gI_sI, if_neg (by omega)]) (hC2.cne (by decide))) (eA 315 (by decide)) (eF 316 (by decide))
  · exact TP.cg (P := sI (sY P' (im 5) r) 259 c 1) (TP.fr (P := sY P' (im 5) r) (d6.fr (P' := P') hf (nct 1 (by decide)) (nct 2 (by decide))) f3 (hC2.cne (by decide)) (hC2.cne (by decide))) (eA 300 (by decide)) (eF 301 (by decide))
end YS
