/-! ===== the class's own methods: sheets, slots, the tape, what waits ===== -/
section CK
variable {P : pS} {c : Nat} {lv im tr ct as : Nat → Nat}
theorem CS.h10 (h : CS P c lv im tr ct as) {k : Nat} (hk_ : k < 4) : hk P (ct (10 + k)) 2 := h.k (10 + k) (by unfold cIx; omega) (by unfold cK; rw [if_neg (by omega), if_neg (by omega), if_neg (by omega), if_neg (by omega), if_pos (by omega)])
theorem CS.h14 (h : CS P c lv im tr ct as) {k : Nat} (hk_ : k < 4) : hk P (ct (14 + k)) 10 ∧ gN P (ct (14 + k)) = 24 := by
  have e : cK (14 + k) = 10 := by unfold cK; rw [if_neg (by omega), if_neg (by omega), if_neg (by omega), if_neg (by omega), if_neg (by omega), if_neg (by omega), if_neg (by omega), if_neg (by omega)]
  exact ⟨h.k _ (by unfold cIx; omega) e, h.n _ (by unfold cIx; omega) (by omega) (by unfold cN; rw [if_neg (by omega), if_neg (by omega), if_neg (by omega), if_neg (by omega)])⟩
theorem CS.h20 (h : CS P c lv im tr ct as) {k : Nat} (hk_ : k < 5) : hk P (ct (20 + k)) 3 := h.k (20 + k) (by unfold cIx; omega) (by unfold cK; rw [if_neg (by omega), if_neg (by omega), if_neg (by omega), if_neg (by omega), if_neg (by omega), if_pos (by omega)])
theorem CS.h25 (h : CS P c lv im tr ct as) {k : Nat} (hk_ : k < 5) : hk P (ct (25 + k)) 6 := h.k (25 + k) (by unfold cIx; omega) (by unfold cK; rw [if_neg (by omega), if_neg (by omega), if_neg (by omega), if_neg (by omega), if_neg (by omega), if_neg (by omega), if_pos (by omega)])
theorem CS.h30 (h : CS P c lv im tr ct as) {k : Nat} (hk_ : k < 5) : hk P (ct (30 + k)) 2 := h.k (30 + k) (by unfold cIx; omega) (by unfold cK; rw [if_neg (by omega), if_neg (by omega), if_neg (by omega), if_neg (by omega), if_neg (by omega), if_neg (by omega), if_neg (by omega), if_pos (by omega)])
theorem CS.h35 (h : CS P c lv im tr ct as) {k : Nat} (hk_ : k < 5) : hk P (ct (35 + k)) 10 ∧ gN P (ct (35 + k)) = 24 := by
  have e : cK (35 + k) = 10 := by unfold cK; rw [if_neg (by omega), if_neg (by omega), if_neg (by omega), if_neg (by omega), if_neg (by omega), if_neg (by omega), if_neg (by omega), if_neg (by omega)]
  exact ⟨h.k _ (by unfold cIx; omega) e, h.n _ (by unfold cIx; omega) (by omega) (by unfold cN; rw [if_neg (by omega), if_neg (by omega), if_neg (by omega), if_neg (by omega)])⟩
end CK
set_option maxRecDepth 100000 in
set_option maxHeartbeats 1000000 in
theorem c_sheetAt {x : pX} {d : Nat} {S : pS} {Q : Option Nat → pS → Prop} {cc : Nat} {lv im tr ct as : Nat → Nat} (hC : CS S cc lv im tr ct as) {i : Int32} (h1 : ∀ k, k < 4 → i = nI k → (nI k).toInt = k → (nI k).toNatClampNeg = k → Q (some (ct (10 + k))) S) (h0 : ¬ (0 ≤ i.toInt ∧ i.toInt ≤ 3) → Q none S) : PR x (d + 2) M_X8_sheetAt [.ref cc, .int i] S Q := by
  refine PM_of (by decide +kernel) (Nat.le_of_ble_eq_true rfl) ?_
  show V x (d + 2) M_X8_sheetAt (qr Q) (0, 0) 0 [(0, .ref cc), (1, .int i)] [] S
  refine V_iln (pc := 0) dX8_sheetAt_0 rfl rfl ?_
  refine V_iconst (pc := 1) (v := 0) dX8_sheetAt_1 (by decide) ?_
  refine V_iconst (pc := 2) (v := 3) dX8_sheetAt_2 (by decide) ?_
  refine V_cSi0 (pc := 3) (jc_X8_56 dX8_sheetAt_3 rfl) rfl rfl (Nat.le_of_ble_eq_true rfl) ?_
  refine c_within (0) (3) (by decide) (by decide) (fun a1 a2 => ?_) (fun a0 => ?_)
  · obtain ⟨k, hk, ek⟩ := int_n (v := i) (N := 3) (by omega) a2 (by decide)
    subst ek
    have tk : (nI k).toInt = k := nI_toInt (by omega)
    have ck : (nI k).toNatClampNeg = k := nI_clamp (by omega)
    refine V_eq (pc := 6) (t := 18) dX8_sheetAt_6 (by decide) (fun h => absurd h (by decide)) (fun _ => ?_)
    refine V_aln (pc := 9) dX8_sheetAt_9 rfl rfl ?_
    refine V_gr (pc := 10) 8 6 262 dX8_sheetAt_10 (FL_X8_36 rfl) rfl rfl hC.1 hC.r4 ?_
    refine V_iln (pc := 13) dX8_sheetAt_13 rfl rfl ?_
    refine V_aa (pc := 14) (N := 4) 11 k dX8_sheetAt_14 (by decide) (by decide) (hC.k 4 (by decide) rfl) (hC.n 4 (by decide) (by decide) rfl) (by decide) rfl (by omega) (hC.sh (by omega)).1 ?_
    refine V_goto (pc := 15) (t := 19) dX8_sheetAt_15 (by decide) ?_
    refine V_aret (pc := 19) dX8_sheetAt_19 rfl (Or.inl ⟨_, rfl⟩) ?_
    first | exact h1 k (by omega) rfl tk ck | exact h0 a0
  · refine V_eq (pc := 6) (t := 18) dX8_sheetAt_6 (by decide) (fun _ => ?_) (fun h => absurd h (by decide))
    refine V_null (pc := 18) dX8_sheetAt_18 ?_
    refine V_aretN (pc := 19) dX8_sheetAt_19 rfl (Or.inl ⟨_, rfl⟩) ?_
    first | exact h1 k (by omega) rfl tk ck | exact h0 a0
set_option maxRecDepth 100000 in
set_option maxHeartbeats 1000000 in
theorem c_slotAt {x : pX} {d : Nat} {S : pS} {Q : Option Nat → pS → Prop} {cc : Nat} {lv im tr ct as : Nat → Nat} (hC : CS S cc lv im tr ct as) {i : Int32} (h1 : ∀ k, k < 5 → i = nI k → (nI k).toInt = k → (nI k).toNatClampNeg = k → Q (some (ct (20 + k))) S) (h0 : ¬ (0 ≤ i.toInt ∧ i.toInt ≤ 4) → Q none S) : PR x (d + 2) M_X8_slotAt [.ref cc, .int i] S Q := by
  refine PM_of (by decide +kernel) (Nat.le_of_ble_eq_true rfl) ?_
  show V x (d + 2) M_X8_slotAt (qr Q) (0, 0) 0 [(0, .ref cc), (1, .int i)] [] S
  refine V_iln (pc := 0) dX8_slotAt_0 rfl rfl ?_
  refine V_iconst (pc := 1) (v := 0) dX8_slotAt_1 (by decide) ?_
  refine V_iconst (pc := 2) (v := 4) dX8_slotAt_2 (by decide) ?_
  refine V_cSi0 (pc := 3) (jc_X8_56 dX8_slotAt_3 rfl) rfl rfl (Nat.le_of_ble_eq_true rfl) ?_
  refine c_within (0) (4) (by decide) (by decide) (fun a1 a2 => ?_) (fun a0 => ?_)
  · obtain ⟨k, hk, ek⟩ := int_n (v := i) (N := 4) (by omega) a2 (by decide)
    subst ek
    have tk : (nI k).toInt = k := nI_toInt (by omega)
    have ck : (nI k).toNatClampNeg = k := nI_clamp (by omega)
    refine V_eq (pc := 6) (t := 18) dX8_slotAt_6 (by decide) (fun h => absurd h (by decide)) (fun _ => ?_)
    refine V_aln (pc := 9) dX8_slotAt_9 rfl rfl ?_
    refine V_gr (pc := 10) 8 7 263 dX8_slotAt_10 (FL_X8_42 rfl) rfl rfl hC.1 hC.r5 ?_
    refine V_iln (pc := 13) dX8_slotAt_13 rfl rfl ?_
    refine V_aa (pc := 14) (N := 5) 12 k dX8_slotAt_14 (by decide) (by decide) (hC.k 5 (by decide) rfl) (hC.n 5 (by decide) (by decide) rfl) (by decide) rfl (by omega) (hC.sl (by omega)).1 ?_
    refine V_goto (pc := 15) (t := 19) dX8_slotAt_15 (by decide) ?_
    refine V_aret (pc := 19) dX8_slotAt_19 rfl (Or.inl ⟨_, rfl⟩) ?_
    first | exact h1 k (by omega) rfl tk ck | exact h0 a0
  · refine V_eq (pc := 6) (t := 18) dX8_slotAt_6 (by decide) (fun _ => ?_) (fun h => absurd h (by decide))
    refine V_null (pc := 18) dX8_slotAt_18 ?_
    refine V_aretN (pc := 19) dX8_slotAt_19 rfl (Or.inl ⟨_, rfl⟩) ?_
    first | exact h1 k (by omega) rfl tk ck | exact h0 a0
section DSH
variable {x : pX} {d : Nat} {S : pS} {Q : Int32 → pS → Prop} {cc : Nat} {lv im tr ct as : Nat → Nat} {A : Nat → Nat → Int32} {k z : Nat}
theorem d_missing (hC : CS S cc lv im tr ct as) (hSH : SH S ct A) (hk : k < 4) (h1 : A 292 k < 0 → Q 1 S) (h0 : ¬ A 292 k < 0 → Q 0 S) : PI x (d + 1) M_X2_isMissing [.ref (ct (10 + k))] S Q := by
  have e := (hSH.2 k hk).1
  have s := (hSH.1 k hk).1
  refine sh_isMissing (hC.h10 hk) (fun q => h1 ?_) (fun q => h0 ?_)
  · rw [← e, q]; decide
  · rw [e] at q
    rcases s with s | s | s
    · exact absurd s q
    · rw [s]; decide
    · rw [s]; decide
theorem d_has (hC : CS S cc lv im tr ct as) (hSH : SH S ct A) (hk : k < 4) (hz : z ≤ 24) (ez : A 293 k = nI z) {i : Int32} (h1 : ∀ j, j < z → i = nI j → (nI j).toInt = j → (nI j).toNatClampNeg = j → Q 1 S) (h0 : ¬ (0 ≤ i.toInt ∧ i.toInt < z) → Q 0 S) : PI x (d + 1) M_X2_has [.ref (ct (10 + k)), .int i] S Q :=
  sh_has (hC.h10 hk) hz (by rw [(hSH.2 k hk).2.1]; exact ez) h1 h0
theorem d_hasNumber (hC : CS S cc lv im tr ct as) (hSH : SH S ct A) (hk : k < 4) (hz : z ≤ 24) (ez : A 293 k = nI z) {i : Int32} (h1 : ∀ j, j < z → i = nI j → (nI j).toInt = j → (nI j).toNatClampNeg = j → ¬ A 294 (24 * k + j) = -1000000005 → Q 1 S) (h2 : ∀ j, j < z → i = nI j → (nI j).toInt = j → (nI j).toNatClampNeg = j → A 294 (24 * k + j) = -1000000005 → Q 0 S) (h0 : ¬ (0 ≤ i.toInt ∧ i.toInt < z) → Q 0 S) : PI x (d + 2) M_X2_hasNumber [.ref (ct (10 + k)), .int i] S Q :=
  sh_hasNumber (hC.h10 hk) (hC.sh hk).2 (hC.h14 hk).1 (hC.h14 hk).2 hz (by rw [(hSH.2 k hk).2.1]; exact ez) (fun j a b c e q => h1 j a b c e (by rw [← (hSH.2 k hk).2.2 j (by omega)]; exact q)) (fun j a b c e q => h2 j a b c e (by rw [← (hSH.2 k hk).2.2 j (by omega)]; exact q)) h0
theorem d_hasRow (hC : CS S cc lv im tr ct as) (hSH : SH S ct A) (hk : k < 4) (hz : z ≤ 24) (ez : A 293 k = nI z) {i v : Int32} (h1 : ∀ pp mm : Nat, pp + mm ≤ z → i = nI pp → v = nI mm → Q 1 S) (h0 : ¬ (0 ≤ i.toInt ∧ 0 ≤ v.toInt ∧ i.toInt + v.toInt ≤ z) → Q 0 S) : PI x (d + 2) M_X2_hasRow [.ref (ct (10 + k)), .int i, .int v] S Q :=
  sh_hasRow (hC.h10 hk) hz (by rw [(hSH.2 k hk).2.1]; exact ez) h1 h0
variable {m : Nat} {F : Nat → Int32} {n nt np : Nat}
theorem shT {ct : Nat → Nat} {k : Nat} (hk_ : k < 4) : ∀ a, (a = ct (10 + k) ∨ a = ct (14 + k)) → ∃ i, (10 ≤ i ∧ i < 18) ∧ a = ct i := fun a q => by
  rcases q with q | q
  · exact ⟨10 + k, by omega, q⟩
  · exact ⟨14 + k, by omega, q⟩
theorem uT_ne (A : Nat → Nat → Int32) (q : (Nat → Int32) × (Nat → Int32) × (Nat → Int32)) : uT A q 292 = q.1 ∧ uT A q 293 = q.2.1 ∧ uT A q 294 = q.2.2 ∧ ∀ f, f ≠ 292 → f ≠ 293 → f ≠ 294 → uT A q f = A f := by
  unfold uT
  refine ⟨?_, ?_, ?_, fun f h1 h2 h3 => ?_⟩
  · rw [va_up_ne _ _ (by decide), va_up_ne _ _ (by decide), va_up_self]
  · rw [va_up_ne _ _ (by decide), va_up_self]
  · rw [va_up_self]
  · rw [va_up_ne _ _ h3, va_up_ne _ _ h2, va_up_ne _ _ h1]
theorem IV.become (hI : IV S cc m lv im tr ct as A F n nt np) (hk : k < 4) {s v : Int32} (hs : s = -1 ∨ s = 0 ∨ s = 1) (hv : ∃ q : Nat, q ≤ 24 ∧ v = nI q) : NX S (sX (sI (sI S 64 (ct (10 + k)) s) 65 (ct (10 + k)) v) (ct (14 + k)) (fa_fill (fun _ => 0) (gX S (ct (14 + k))) 24)) cc m lv im tr ct as (uT A (upd (A 292) k s, upd (A 293) k v, clr (A 294) k 24)) F n nt np := by
  obtain ⟨u1, u2, u3, u4⟩ := uT_ne A (upd (A 292) k s, upd (A 293) k v, clr (A 294) k 24)
  have hf : fr (fun b => b = ct (10 + k) ∨ b = ct (14 + k)) S (sX (sI (sI S 64 (ct (10 + k)) s) 65 (ct (10 + k)) v) (ct (14 + k)) (fa_fill (fun _ => 0) (gX S (ct (14 + k))) 24)) := ((fr.rf.sI (Or.inl rfl) 64 s).sI (Or.inl rfl) 65 v).sX (Or.inr rfl) _
  refine hI.sheets hf (shT hk) u4 (sh_upd hI.2.2.2.2.1 hI.1 hk hf (r := fun _ => 0) hs hv ?_ ?_ (fun j hj => ?_) u1 u2 (fun i j hi hj => ?_))
  · show gI (sI (sI S 64 (ct (10 + k)) s) 65 (ct (10 + k)) v) 64 (ct (10 + k)) = s
    rw [gI_sI, if_neg (by omega), gI_sI, if_pos ⟨rfl, rfl⟩]
  · show gI (sI (sI S 64 (ct (10 + k)) s) 65 (ct (10 + k)) v) 65 (ct (10 + k)) = v
    rw [gI_sI, if_pos ⟨rfl, rfl⟩]
  · rw [gX_sX, if_pos rfl]; exact fa_fill_in hj
  · rw [u3]
    show clr (A 294) k 24 (24 * i + j) = _
    unfold clr
    by_cases e : i = k
    · rw [if_pos (by omega), if_pos e]
    · rw [if_neg (by omega), if_neg e]
theorem IV.places (hI : IV S cc m lv im tr ct as A F n nt np) (hk : k < 4) {r r2 : Nat → Int32} (hr : ∀ i j, i < 4 → j < 24 → r2 (24 * i + j) = if i = k then r j else A 294 (24 * i + j)) : NX S (sX S (ct (14 + k)) r) cc m lv im tr ct as (va_up A 294 r2) F n nt np := by
  have hf : fr (fun b => b = ct (10 + k) ∨ b = ct (14 + k)) S (sX S (ct (14 + k)) r) := fr.rf.sX (Or.inr rfl) _
  have h2 := hI.2.2.2.2.1
  refine hI.sheets hf (shT hk) (fun f _ _ h3 => va_up_ne _ _ h3) (sh_upd h2 hI.1 hk hf (r := r) (h2.1 k hk).1 (h2.1 k hk).2 (h2.2 k hk).1 (h2.2 k hk).2.1 (fun j _ => by rw [gX_sX, if_pos rfl]) ?_ ?_ (fun i j hi hj => ?_))
  · rw [va_up_ne _ _ (by decide)]; exact (fa_upd_same rfl).symm
  · rw [va_up_ne _ _ (by decide)]; exact (fa_upd_same rfl).symm
  · rw [va_up_self]; exact hr i j hi hj
end DSH
theorem NX.rfT {P : pS} {c m : Nat} {lv im tr ct as : Nat → Nat} {A : Nat → Nat → Int32} {F : Nat → Int32} {n nt np : Nat} (h : IV P c m lv im tr ct as A F n nt np) : NX P P c m lv im tr ct as (uT A (A 292, A 293, A 294)) F n nt np := by rw [uT_self]; exact NX.rf h
theorem NX.rf4 {P : pS} {c m : Nat} {lv im tr ct as : Nat → Nat} {A : Nat → Nat → Int32} {F : Nat → Int32} {n nt np : Nat} (h : IV P c m lv im tr ct as A F n nt np) (f : Nat) : NX P P c m lv im tr ct as (va_up A f (A f)) F n nt np := by rw [vu_self]; exact NX.rf h
theorem NX.rfH {P : pS} {c m : Nat} {lv im tr ct as : Nat → Nat} {A : Nat → Nat → Int32} {F : Nat → Int32} {n nt np : Nat} (h : IV P c m lv im tr ct as A F n nt np) : NX P P c m lv im tr ct as (uH A (A 295, A 296, A 297, A 298, A 299)) F n nt np := by rw [uH_self]; exact NX.rf h
set_option maxRecDepth 100000 in
set_option maxHeartbeats 1000000 in
theorem C_sheet {x : pX} {d : Nat} {S : pS} {Q : Int32 → pS → Prop} {cc m : Nat} {lv im tr ct as : Nat → Nat} {A : Nat → Nat → Int32} {F : Nat → Int32} {n nt np : Nat} (hI : IV S cc m lv im tr ct as A F n nt np) {i s v : Int32} (h : ∀ S2 n2 nt2 np2, NX S S2 cc m lv im tr ct as (uT A (o_sheet (A 292, A 293, A 294) i s v).2) (F) n2 nt2 np2 → Q ((o_sheet (A 292, A 293, A 294) i s v).1) S2) : PI x (d + 4) M_X8_sheet [.ref cc, .int i, .int s, .int v] S Q := by
  have hC := hI.1
  have hMF := hI.2.1
  have hS := hC.wl
  have hW := hI.2.2.1.1
  have hX := hI.2.2.1.2.1
  have hMI := hI.2.2.1.2.2.1
  have hV := hI.2.2.1.2.2.2
  have hn := hMI.1.1
  have hn10 := hMI.1.2
  have ht := hMI.2.1.1
  have ht14 := hMI.2.1.2
  have hp := hMI.2.2.1.1
  have hp20 := hMI.2.2.1.2
  have hSH := hI.2.2.2.2.1
  have hSI := hSH.1
  have hSL := hI.2.2.2.2.2.1
  have hWQ := hI.2.2.2.2.2.2.1
  have hTP := hI.2.2.2.2.2.2.2
  have z0 : (0 : Int32).toInt = 0 := rfl
  have z24 : (24 : Int32).toInt = 24 := rfl
  have m1 : (-1 : Int32).toInt = -1 := by decide
  refine PM_of (by decide +kernel) (Nat.le_of_ble_eq_true rfl) ?_
  show V x (d + 4) M_X8_sheet (qi Q) (0, 0) 0 [(0, .ref cc), (1, .int i), (2, .int s), (3, .int v)] [] S
  refine V_aln (pc := 0) dX8_sheet_0 rfl rfl ?_
  refine V_iln (pc := 1) dX8_sheet_1 rfl rfl ?_
  refine V_cVr0 (pc := 2) (jc_X8_249 dX8_sheet_2 rfl) rfl rfl (Nat.le_of_ble_eq_true rfl) hC.1 ?_
  refine c_sheetAt hC (fun k hk ek tk ck => ?_) (fun s0k => ?_)
  · subst ek
    refine V_as (pc := 5) (ls' := [(0, .ref cc), (1, .int (nI k)), (2, .int s), (3, .int v), (4, .ref ((ct (10 + k))))]) dX8_sheet_5 (by decide) rfl ?_
    refine V_al (pc := 7) dX8_sheet_7 rfl ?_
    refine V_ifnull (pc := 9) (t := 21) dX8_sheet_9 (by decide) ?_
    refine V_iln (pc := 12) dX8_sheet_12 rfl rfl ?_
    refine V_iconst (pc := 13) (v := (-1)) dX8_sheet_13 (by decide) ?_
    refine V_iconst (pc := 14) (v := 1) dX8_sheet_14 (by decide) ?_
    refine V_cSi0 (pc := 15) (jc_X8_56 dX8_sheet_15 rfl) rfl rfl (Nat.le_of_ble_eq_true rfl) ?_
    refine c_within (-1) (1) (by decide) (by decide) (fun a1 a2 => ?_) (fun a0 => ?_)
    · refine V_ne (pc := 18) (t := 24) dX8_sheet_18 (by decide) (fun _ => ?_) (fun h => absurd h (by decide))
      refine V_iln (pc := 24) dX8_sheet_24 rfl rfl ?_
      refine V_iconst (pc := 25) (v := (-1)) dX8_sheet_25 (by decide) ?_
      refine V_cne (pc := 26) (t := 38) dX8_sheet_26 (by decide) (fun h26 => ?_) (fun h26 => ?_)
      · have s1 : ¬ s.toInt = -1 := fun q => h26 (Int32.toInt_inj.mp (q.trans m1.symm))
        refine V_iln (pc := 38) dX8_sheet_38 rfl rfl ?_
        refine V_bipush (pc := 39) (v := 24) dX8_sheet_39 (by decide) ?_
        refine V_cle (pc := 41) (t := 47) dX8_sheet_41 (by decide) (fun h41 => ?_) (fun h41 => ?_)
        · have v2 := le_toInt.mp h41
          refine V_iln (pc := 47) dX8_sheet_47 rfl rfl ?_
          refine V_ge (pc := 48) (t := 55) dX8_sheet_48 (by decide) (fun h48 => ?_) (fun h48 => ?_)
          · have v1 := le_toInt.mp h48
            refine V_al (pc := 55) dX8_sheet_55 rfl ?_
            refine V_iln (pc := 57) dX8_sheet_57 rfl rfl ?_
            refine V_iln (pc := 58) dX8_sheet_58 rfl rfl ?_
            refine V_cVv0 (pc := 59) (jc_X8_253 dX8_sheet_59 rfl) rfl rfl (Nat.le_of_ble_eq_true rfl) (hC.h10 hk) ?_
            have e0 : hld v 24 = v := by unfold hld; rw [if_neg (Int32.not_lt.mpr h48), if_neg (Int32.not_lt.mpr h41)]
            refine sh_become (hC.h10 hk) (hC.sh hk).2 (hC.h14 hk).1 (hC.h14 hk).2 ?_
            rw [e0]
            refine V_iln (pc := 62) dX8_sheet_62 rfl rfl ?_
            refine V_iret (pc := 63) dX8_sheet_63 rfl rfl ?_
            obtain ⟨q, hq, eq⟩ := int_n (v := v) (N := 24) (by omega) (by omega) (by decide)
            have s3 : s = -1 ∨ s = 0 ∨ s = 1 := by
              obtain ⟨q2, hq2, eq2⟩ := int_n (v := s) (N := 1) (by omega) (by omega) (by decide)
              rcases (show q2 = 0 ∨ q2 = 1 by omega) with w | w
              · exact Or.inr (Or.inl (by rw [eq2, w]; rfl))
              · exact Or.inr (Or.inr (by rw [eq2, w]; rfl))
            unfold o_sheet at h
            rw [if_pos (by omega), if_neg (by omega), if_neg (by omega), ck] at h
            exact h _ _ _ _ (hI.become hk s3 ⟨q, hq, eq⟩)
          · have v1 := lt_toInt.mp (Int32.not_le.mp h48)
            refine V_ldcw (pc := 51) dX8_sheet_51 (KC_X8_257 rfl) ?_
            refine V_iret (pc := 54) dX8_sheet_54 rfl rfl ?_
            unfold o_sheet at h
            rw [if_pos (by omega), if_pos (by omega)] at h
            exact h S _ _ _ (NX.rfT hI)
        · have v2 := lt_toInt.mp (Int32.not_le.mp h41)
          refine V_ldc (pc := 44) dX8_sheet_44 (KC_X8_60 rfl) ?_
          refine V_iret (pc := 46) dX8_sheet_46 rfl rfl ?_
          unfold o_sheet at h
          rw [if_neg (by omega)] at h
          exact h S _ _ _ (NX.rfT hI)
      · subst h26
        refine V_al (pc := 29) dX8_sheet_29 rfl ?_
        refine V_iconst (pc := 31) (v := (-1)) dX8_sheet_31 (by decide) ?_
        refine V_iconst (pc := 32) (v := 0) dX8_sheet_32 (by decide) ?_
        refine V_cVv0 (pc := 33) (jc_X8_253 dX8_sheet_33 rfl) rfl rfl (Nat.le_of_ble_eq_true rfl) (hC.h10 hk) ?_
        refine sh_become (hC.h10 hk) (hC.sh hk).2 (hC.h14 hk).1 (hC.h14 hk).2 ?_
        rw [show hld 0 24 = 0 from by decide]
        refine V_iconst (pc := 36) (v := 0) dX8_sheet_36 (by decide) ?_
        refine V_iret (pc := 37) dX8_sheet_37 rfl rfl ?_
        unfold o_sheet at h
        rw [if_pos (by omega), if_neg (by omega), if_pos (by omega), ck] at h
        exact h _ _ _ _ (hI.become hk (Or.inl rfl) ⟨0, by decide, rfl⟩)
    · refine V_ne (pc := 18) (t := 24) dX8_sheet_18 (by decide) (fun h => absurd h (by decide)) (fun _ => ?_)
      refine V_ldc (pc := 21) dX8_sheet_21 (KC_X8_60 rfl) ?_
      refine V_iret (pc := 23) dX8_sheet_23 rfl rfl ?_
      unfold o_sheet at h
      rw [if_neg (by omega)] at h
      exact h S _ _ _ (NX.rfT hI)
  · refine V_asN (pc := 5) (ls' := [(0, .ref cc), (1, .int i), (2, .int s), (3, .int v), (4, .null)]) dX8_sheet_5 (by decide) rfl ?_
    refine V_alN (pc := 7) dX8_sheet_7 rfl ?_
    refine V_ifnullN (pc := 9) (t := 21) dX8_sheet_9 (by decide) ?_
    refine V_ldc (pc := 21) dX8_sheet_21 (KC_X8_60 rfl) ?_
    refine V_iret (pc := 23) dX8_sheet_23 rfl rfl ?_
    unfold o_sheet at h
    rw [if_neg (by omega)] at h
    exact h S _ _ _ (NX.rfT hI)
theorem pl_a3 {tn : Nat → Int32} {k j : Nat} {r : Nat → Int32} (v : Int32) (hr : ∀ q, q < 24 → r q = tn (24 * k + q)) (hj : j < 24) : ∀ i q, i < 4 → q < 24 → upd tn (24 * k + j) v (24 * i + q) = if i = k then upd r j v q else tn (24 * i + q) := fun i q hi hq => by
  by_cases e : i = k
  · subst e
    rw [if_pos rfl]
    by_cases w : q = j
    · subst w; rw [pk_us, pk_us]
    · rw [pk_un (by omega), pk_un w]; exact (hr q hq).symm
  · rw [if_neg e, pk_un (by omega)]
set_option maxRecDepth 100000 in
set_option maxHeartbeats 1000000 in
theorem C_mark {x : pX} {d : Nat} {S : pS} {Q : Int32 → pS → Prop} {cc m : Nat} {lv im tr ct as : Nat → Nat} {A : Nat → Nat → Int32} {F : Nat → Int32} {n nt np : Nat} (hI : IV S cc m lv im tr ct as A F n nt np) {i p v : Int32} (h : ∀ S2 n2 nt2 np2, NX S S2 cc m lv im tr ct as (va_up A 294 (o_mark (A 292) (A 293) (A 294) i p v).2) (F) n2 nt2 np2 → Q ((o_mark (A 292) (A 293) (A 294) i p v).1) S2) : PI x (d + 3) M_X8_mark [.ref cc, .int i, .int p, .int v] S Q := by
  have hC := hI.1
  have hMF := hI.2.1
  have hS := hC.wl
  have hW := hI.2.2.1.1
  have hX := hI.2.2.1.2.1
  have hMI := hI.2.2.1.2.2.1
  have hV := hI.2.2.1.2.2.2
  have hn := hMI.1.1
  have hn10 := hMI.1.2
  have ht := hMI.2.1.1
  have ht14 := hMI.2.1.2
  have hp := hMI.2.2.1.1
  have hp20 := hMI.2.2.1.2
  have hSH := hI.2.2.2.2.1
  have hSI := hSH.1
  have hSL := hI.2.2.2.2.2.1
  have hWQ := hI.2.2.2.2.2.2.1
  have hTP := hI.2.2.2.2.2.2.2
  have z0 : (0 : Int32).toInt = 0 := rfl
  have z24 : (24 : Int32).toInt = 24 := rfl
  have m1 : (-1 : Int32).toInt = -1 := by decide
  refine PM_of (by decide +kernel) (Nat.le_of_ble_eq_true rfl) ?_
  show V x (d + 3) M_X8_mark (qi Q) (0, 0) 0 [(0, .ref cc), (1, .int i), (2, .int p), (3, .int v)] [] S
  refine V_aln (pc := 0) dX8_mark_0 rfl rfl ?_
  refine V_iln (pc := 1) dX8_mark_1 rfl rfl ?_
  refine V_cVr0 (pc := 2) (jc_X8_249 dX8_mark_2 rfl) rfl rfl (Nat.le_of_ble_eq_true rfl) hC.1 ?_
  refine c_sheetAt hC (fun k hk ek tk ck => ?_) (fun s0k => ?_)
  · subst ek
    refine V_as (pc := 5) (ls' := [(0, .ref cc), (1, .int (nI k)), (2, .int p), (3, .int v), (4, .ref ((ct (10 + k))))]) dX8_mark_5 (by decide) rfl ?_
    refine V_al (pc := 7) dX8_mark_7 rfl ?_
    refine V_ifnonnull (pc := 9) (t := 15) dX8_mark_9 (by decide) ?_
    refine V_al (pc := 15) dX8_mark_15 rfl ?_
    refine V_cVi0 (pc := 17) (jc_X8_258 dX8_mark_17 rfl) rfl rfl (Nat.le_of_ble_eq_true rfl) (hC.h10 hk) ?_
    refine d_missing hC hSH hk (fun m1_ => ?_) (fun m0 => ?_)
    · refine V_eq (pc := 20) (t := 27) dX8_mark_20 (by decide) (fun h => absurd h (by decide)) (fun _ => ?_)
      refine V_ldcw (pc := 23) dX8_mark_23 (KC_X8_261 rfl) ?_
      refine V_iret (pc := 26) dX8_mark_26 rfl rfl ?_
      unfold o_mark at h
      rw [if_pos (by omega), ck, if_pos m1_] at h
      exact h S _ _ _ (NX.rf4 hI 294)
    · refine V_eq (pc := 20) (t := 27) dX8_mark_20 (by decide) (fun _ => ?_) (fun h => absurd h (by decide))
      refine V_al (pc := 27) dX8_mark_27 rfl ?_
      refine V_iln (pc := 29) dX8_mark_29 rfl rfl ?_
      refine V_cVi0 (pc := 30) (jc_X8_262 dX8_mark_30 rfl) rfl rfl (Nat.le_of_ble_eq_true rfl) (hC.h10 hk) ?_
      obtain ⟨z, hz, ez⟩ := (hSI k hk).2
      have tz : (nI z).toInt = z := nI_toInt (by omega)
      have cz : (nI z).toNatClampNeg = z := nI_clamp (by omega)
      refine d_has hC hSH hk hz ez (fun j hj ej tj cj => ?_) (fun j0 => ?_)
      · subst ej
        refine V_ne (pc := 33) (t := 40) dX8_mark_33 (by decide) (fun _ => ?_) (fun h => absurd h (by decide))
        refine V_al (pc := 40) dX8_mark_40 rfl ?_
        refine V_gie (pc := 42) 2 0 64 dX8_mark_42 (FL_X8_264 rfl) rfl rfl (hC.h10 hk) (hSH.2 k hk).1 ?_
        refine V_ne (pc := 45) (t := 52) dX8_mark_45 (by decide) (fun h45 => ?_) (fun h45 => ?_)
        · have t1 : A 292 k = 1 := by rcases (hSI k hk).1 with w | w | w; exact absurd (by rw [w]; decide) m0; exact absurd w h45; exact w
          refine V_iconst (pc := 52) (v := 0) dX8_mark_52 (by decide) ?_
          refine V_is (pc := 53) (fun y => [(0, .ref cc), (1, .int (nI k)), (2, .int (nI j)), (3, .int v), (4, .ref ((ct (10 + k)))), (5, .int y)]) dX8_mark_53 (by decide) (fun _ => rfl) (fun y53 ey53 => ?_)
          obtain rfl : y53 = nI 0 := ey53
          refine V_il (pc := 55) dX8_mark_55 rfl ?_
          refine V_eq (pc := 57) (t := 69) dX8_mark_57 (by decide) (fun _ => ?_) (fun h => absurd h (by decide))
          refine V_il (pc := 69) dX8_mark_69 rfl ?_
          refine V_ne (pc := 71) (t := 96) dX8_mark_71 (by decide) (fun h => absurd h (by decide)) (fun _ => ?_)
          refine V_iln (pc := 74) dX8_mark_74 rfl rfl ?_
          refine V_ldc (pc := 75) dX8_mark_75 (KC_X8_154 rfl) ?_
          refine V_ceq (pc := 77) (t := 96) dX8_mark_77 (by decide) (fun h77 => ?_) (fun h77 => ?_)
          · refine V_al (pc := 96) dX8_mark_96 rfl ?_
            refine V_gr (pc := 98) 2 2 66 dX8_mark_98 (FL_X8_269 rfl) rfl rfl (hC.h10 hk) (hC.sh hk).2 ?_
            refine V_iln (pc := 101) dX8_mark_101 rfl rfl ?_
            refine V_il (pc := 102) dX8_mark_102 rfl ?_
            refine V_eq (pc := 104) (t := 112) dX8_mark_104 (by decide) (fun _ => ?_) (fun h => absurd h (by decide))
            refine V_iln (pc := 112) dX8_mark_112 rfl rfl ?_
            refine V_ias (pc := 113) (N := 24) j dX8_mark_113 (hC.h14 hk).1 (hC.h14 hk).2 (by decide) rfl (by omega) ?_
            refine V_iconst (pc := 114) (v := 1) dX8_mark_114 (by decide) ?_
            refine V_iret (pc := 115) dX8_mark_115 rfl rfl ?_
            first
              | (have c1 : ¬ (A 292 k = 0 ∧ v = -1000000005) := fun q => h63 q.2
                 have c2 : ¬ (A 292 k = 1 ∧ ¬ v = -1000000005 ∧ ¬ (-99999 ≤ v.toInt ∧ v.toInt ≤ 99999)) := fun q => absurd (h45.symm.trans q.1) (by decide)
                 unfold o_mark at h; rw [if_pos (by omega), ck, if_neg m0, if_pos (by rw [ez, tz]; omega), if_neg c1, if_neg c2, if_pos h45, cj, short_c] at h
                 exact h _ _ _ _ (hI.places hk (pl_a3 _ (hSH.2 k hk).2.2 (by omega))))
              | (have c1 : ¬ (A 292 k = 0 ∧ v = -1000000005) := fun q => h45 q.1
                 have c2 : ¬ (A 292 k = 1 ∧ ¬ v = -1000000005 ∧ ¬ (-99999 ≤ v.toInt ∧ v.toInt ≤ 99999)) := fun q => by first | exact q.2.1 h77 | exact q.2.2 ⟨f1, f2⟩
                 unfold o_mark at h; rw [if_pos (by omega), ck, if_neg m0, if_pos (by rw [ez, tz]; omega), if_neg c1, if_neg c2, if_neg h45, cj] at h
                 exact h _ _ _ _ (hI.places hk (pl_a3 _ (hSH.2 k hk).2.2 (by omega))))
          · refine V_iln (pc := 80) dX8_mark_80 rfl rfl ?_
            refine V_ldcw (pc := 81) dX8_mark_81 (KC_X8_267 rfl) ?_
            refine V_ldcw (pc := 84) dX8_mark_84 (KC_X8_268 rfl) ?_
            refine V_cSi0 (pc := 87) (jc_X8_56 dX8_mark_87 rfl) rfl rfl (Nat.le_of_ble_eq_true rfl) ?_
            refine c_within (-99999) (99999) (by decide) (by decide) (fun f1 f2 => ?_) (fun f0 => ?_)
            · refine V_ne (pc := 90) (t := 96) dX8_mark_90 (by decide) (fun _ => ?_) (fun h => absurd h (by decide))
              refine V_al (pc := 96) dX8_mark_96 rfl ?_
              refine V_gr (pc := 98) 2 2 66 dX8_mark_98 (FL_X8_269 rfl) rfl rfl (hC.h10 hk) (hC.sh hk).2 ?_
              refine V_iln (pc := 101) dX8_mark_101 rfl rfl ?_
              refine V_il (pc := 102) dX8_mark_102 rfl ?_
              refine V_eq (pc := 104) (t := 112) dX8_mark_104 (by decide) (fun _ => ?_) (fun h => absurd h (by decide))
              refine V_iln (pc := 112) dX8_mark_112 rfl rfl ?_
              refine V_ias (pc := 113) (N := 24) j dX8_mark_113 (hC.h14 hk).1 (hC.h14 hk).2 (by decide) rfl (by omega) ?_
              refine V_iconst (pc := 114) (v := 1) dX8_mark_114 (by decide) ?_
              refine V_iret (pc := 115) dX8_mark_115 rfl rfl ?_
              first
                | (have c1 : ¬ (A 292 k = 0 ∧ v = -1000000005) := fun q => h63 q.2
                   have c2 : ¬ (A 292 k = 1 ∧ ¬ v = -1000000005 ∧ ¬ (-99999 ≤ v.toInt ∧ v.toInt ≤ 99999)) := fun q => absurd (h45.symm.trans q.1) (by decide)
                   unfold o_mark at h; rw [if_pos (by omega), ck, if_neg m0, if_pos (by rw [ez, tz]; omega), if_neg c1, if_neg c2, if_pos h45, cj, short_c] at h
                   exact h _ _ _ _ (hI.places hk (pl_a3 _ (hSH.2 k hk).2.2 (by omega))))
                | (have c1 : ¬ (A 292 k = 0 ∧ v = -1000000005) := fun q => h45 q.1
                   have c2 : ¬ (A 292 k = 1 ∧ ¬ v = -1000000005 ∧ ¬ (-99999 ≤ v.toInt ∧ v.toInt ≤ 99999)) := fun q => by first | exact q.2.1 h77 | exact q.2.2 ⟨f1, f2⟩
                   unfold o_mark at h; rw [if_pos (by omega), ck, if_neg m0, if_pos (by rw [ez, tz]; omega), if_neg c1, if_neg c2, if_neg h45, cj] at h
                   exact h _ _ _ _ (hI.places hk (pl_a3 _ (hSH.2 k hk).2.2 (by omega))))
            · refine V_ne (pc := 90) (t := 96) dX8_mark_90 (by decide) (fun h => absurd h (by decide)) (fun _ => ?_)
              refine V_ldc (pc := 93) dX8_mark_93 (KC_X8_60 rfl) ?_
              refine V_iret (pc := 95) dX8_mark_95 rfl rfl ?_
              unfold o_mark at h
              rw [if_pos (by omega), ck, if_neg m0, if_pos (by rw [ez, tz]; omega), if_neg (fun q => h45 q.1), if_pos ⟨t1, h77, f0⟩] at h
              exact h S _ _ _ (NX.rf4 hI 294)
        · refine V_iconst (pc := 48) (v := 1) dX8_mark_48 (by decide) ?_
          refine V_goto (pc := 49) (t := 53) dX8_mark_49 (by decide) ?_
          refine V_is (pc := 53) (fun y => [(0, .ref cc), (1, .int (nI k)), (2, .int (nI j)), (3, .int v), (4, .ref ((ct (10 + k)))), (5, .int y)]) dX8_mark_53 (by decide) (fun _ => rfl) (fun y53 ey53 => ?_)
          obtain rfl : y53 = nI 1 := ey53
          refine V_il (pc := 55) dX8_mark_55 rfl ?_
          refine V_eq (pc := 57) (t := 69) dX8_mark_57 (by decide) (fun h => absurd h (by decide)) (fun _ => ?_)
          refine V_iln (pc := 60) dX8_mark_60 rfl rfl ?_
          refine V_ldc (pc := 61) dX8_mark_61 (KC_X8_154 rfl) ?_
          refine V_cne (pc := 63) (t := 69) dX8_mark_63 (by decide) (fun h63 => ?_) (fun h63 => ?_)
          · refine V_il (pc := 69) dX8_mark_69 rfl ?_
            refine V_ne (pc := 71) (t := 96) dX8_mark_71 (by decide) (fun _ => ?_) (fun h => absurd h (by decide))
            refine V_al (pc := 96) dX8_mark_96 rfl ?_
            refine V_gr (pc := 98) 2 2 66 dX8_mark_98 (FL_X8_269 rfl) rfl rfl (hC.h10 hk) (hC.sh hk).2 ?_
            refine V_iln (pc := 101) dX8_mark_101 rfl rfl ?_
            refine V_il (pc := 102) dX8_mark_102 rfl ?_
            refine V_eq (pc := 104) (t := 112) dX8_mark_104 (by decide) (fun h => absurd h (by decide)) (fun _ => ?_)
            refine V_iln (pc := 107) dX8_mark_107 rfl rfl ?_
            refine V_i2s (pc := 108) dX8_mark_108 ?_
            refine V_goto (pc := 109) (t := 113) dX8_mark_109 (by decide) ?_
            refine V_ias (pc := 113) (N := 24) j dX8_mark_113 (hC.h14 hk).1 (hC.h14 hk).2 (by decide) rfl (by omega) ?_
            refine V_iconst (pc := 114) (v := 1) dX8_mark_114 (by decide) ?_
            refine V_iret (pc := 115) dX8_mark_115 rfl rfl ?_
            first
              | (have c1 : ¬ (A 292 k = 0 ∧ v = -1000000005) := fun q => h63 q.2
                 have c2 : ¬ (A 292 k = 1 ∧ ¬ v = -1000000005 ∧ ¬ (-99999 ≤ v.toInt ∧ v.toInt ≤ 99999)) := fun q => absurd (h45.symm.trans q.1) (by decide)
                 unfold o_mark at h; rw [if_pos (by omega), ck, if_neg m0, if_pos (by rw [ez, tz]; omega), if_neg c1, if_neg c2, if_pos h45, cj, short_c] at h
                 exact h _ _ _ _ (hI.places hk (pl_a3 _ (hSH.2 k hk).2.2 (by omega))))
              | (have c1 : ¬ (A 292 k = 0 ∧ v = -1000000005) := fun q => h45 q.1
                 have c2 : ¬ (A 292 k = 1 ∧ ¬ v = -1000000005 ∧ ¬ (-99999 ≤ v.toInt ∧ v.toInt ≤ 99999)) := fun q => by first | exact q.2.1 h77 | exact q.2.2 ⟨f1, f2⟩
                 unfold o_mark at h; rw [if_pos (by omega), ck, if_neg m0, if_pos (by rw [ez, tz]; omega), if_neg c1, if_neg c2, if_neg h45, cj] at h
                 exact h _ _ _ _ (hI.places hk (pl_a3 _ (hSH.2 k hk).2.2 (by omega))))
          · refine V_ldc (pc := 66) dX8_mark_66 (KC_X8_103 rfl) ?_
            refine V_iret (pc := 68) dX8_mark_68 rfl rfl ?_
            unfold o_mark at h
            rw [if_pos (by omega), ck, if_neg m0, if_pos (by rw [ez, tz]; omega), if_pos ⟨h45, h63⟩] at h
            exact h S _ _ _ (NX.rf4 hI 294)
      · refine V_ne (pc := 33) (t := 40) dX8_mark_33 (by decide) (fun h => absurd h (by decide)) (fun _ => ?_)
        refine V_ldcw (pc := 36) dX8_mark_36 (KC_X8_263 rfl) ?_
        refine V_iret (pc := 39) dX8_mark_39 rfl rfl ?_
        unfold o_mark at h
        rw [if_pos (by omega), ck, if_neg m0, if_neg (by rw [ez, tz]; omega)] at h
        exact h S _ _ _ (NX.rf4 hI 294)
  · refine V_asN (pc := 5) (ls' := [(0, .ref cc), (1, .int i), (2, .int p), (3, .int v), (4, .null)]) dX8_mark_5 (by decide) rfl ?_
    refine V_alN (pc := 7) dX8_mark_7 rfl ?_
    refine V_ifnonnullN (pc := 9) (t := 15) dX8_mark_9 (by decide) ?_
    refine V_ldc (pc := 12) dX8_mark_12 (KC_X8_60 rfl) ?_
    refine V_iret (pc := 14) dX8_mark_14 rfl rfl ?_
    unfold o_mark at h
    rw [if_neg (by omega)] at h
    exact h S _ _ _ (NX.rf4 hI 294)
set_option maxRecDepth 100000 in
set_option maxHeartbeats 1000000 in
theorem C_copy {x : pX} {d : Nat} {S : pS} {Q : Int32 → pS → Prop} {cc m : Nat} {lv im tr ct as : Nat → Nat} {A : Nat → Nat → Int32} {F : Nat → Int32} {n nt np : Nat} (hI : IV S cc m lv im tr ct as A F n nt np) {f p t a N : Int32} (h : ∀ S2 n2 nt2 np2, NX S S2 cc m lv im tr ct as (va_up A 294 (o_copy (A 292) (A 293) (A 294) f p t a N).2) (F) n2 nt2 np2 → Q ((o_copy (A 292) (A 293) (A 294) f p t a N).1) S2) : PI x (d + 3) M_X8_copy [.ref cc, .int f, .int p, .int t, .int a, .int N] S Q := by
  have hC := hI.1
  have hMF := hI.2.1
  have hS := hC.wl
  have hW := hI.2.2.1.1
  have hX := hI.2.2.1.2.1
  have hMI := hI.2.2.1.2.2.1
  have hV := hI.2.2.1.2.2.2
  have hn := hMI.1.1
  have hn10 := hMI.1.2
  have ht := hMI.2.1.1
  have ht14 := hMI.2.1.2
  have hp := hMI.2.2.1.1
  have hp20 := hMI.2.2.1.2
  have hSH := hI.2.2.2.2.1
  have hSI := hSH.1
  have hSL := hI.2.2.2.2.2.1
  have hWQ := hI.2.2.2.2.2.2.1
  have hTP := hI.2.2.2.2.2.2.2
  have z0 : (0 : Int32).toInt = 0 := rfl
  have z24 : (24 : Int32).toInt = 24 := rfl
  have m1 : (-1 : Int32).toInt = -1 := by decide
  refine PM_of (by decide +kernel) (Nat.le_of_ble_eq_true rfl) ?_
  show V x (d + 3) M_X8_copy (qi Q) (0, 0) 0 [(0, .ref cc), (1, .int f), (2, .int p), (3, .int t), (4, .int a), (5, .int N)] [] S
  refine V_aln (pc := 0) dX8_copy_0 rfl rfl ?_
  refine V_iln (pc := 1) dX8_copy_1 rfl rfl ?_
  refine V_cVr0 (pc := 2) (jc_X8_249 dX8_copy_2 rfl) rfl rfl (Nat.le_of_ble_eq_true rfl) hC.1 ?_
  refine c_sheetAt hC (fun fa hfa efa tfa cfa => ?_) (fun s0fa => ?_)
  · subst efa
    refine V_as (pc := 5) (ls' := [(0, .ref cc), (1, .int (nI fa)), (2, .int p), (3, .int t), (4, .int a), (5, .int N), (6, .ref ((ct (10 + fa))))]) dX8_copy_5 (by decide) rfl ?_
    refine V_aln (pc := 7) dX8_copy_7 rfl rfl ?_
    refine V_iln (pc := 8) dX8_copy_8 rfl rfl ?_
    refine V_cVr0 (pc := 9) (jc_X8_249 dX8_copy_9 rfl) rfl rfl (Nat.le_of_ble_eq_true rfl) hC.1 ?_
    refine c_sheetAt hC (fun ta hta eta tta cta => ?_) (fun s0ta => ?_)
    · subst eta
      refine V_as (pc := 12) (ls' := [(0, .ref cc), (1, .int (nI fa)), (2, .int p), (3, .int (nI ta)), (4, .int a), (5, .int N), (6, .ref ((ct (10 + fa)))), (7, .ref ((ct (10 + ta))))]) dX8_copy_12 (by decide) rfl ?_
      refine V_al (pc := 14) dX8_copy_14 rfl ?_
      refine V_ifnull (pc := 16) (t := 24) dX8_copy_16 (by decide) ?_
      refine V_al (pc := 19) dX8_copy_19 rfl ?_
      refine V_ifnonnull (pc := 21) (t := 27) dX8_copy_21 (by decide) ?_
      refine V_al (pc := 27) dX8_copy_27 rfl ?_
      refine V_cVi0 (pc := 29) (jc_X8_258 dX8_copy_29 rfl) rfl rfl (Nat.le_of_ble_eq_true rfl) (hC.h10 hfa) ?_
      refine d_missing hC hSH hfa (fun mf1 => ?_) (fun mf0 => ?_)
      · refine V_ne (pc := 32) (t := 43) dX8_copy_32 (by decide) (fun _ => ?_) (fun h => absurd h (by decide))
        refine V_ldcw (pc := 43) dX8_copy_43 (KC_X8_261 rfl) ?_
        refine V_iret (pc := 46) dX8_copy_46 rfl rfl ?_
        first
          | (unfold o_copy at h; rw [if_pos (by omega), cfa, cta, if_pos (Or.inl mf1)] at h; exact h S _ _ _ (NX.rf4 hI 294))
          | (unfold o_copy at h; rw [if_pos (by omega), cfa, cta, if_pos (Or.inr mt1)] at h; exact h S _ _ _ (NX.rf4 hI 294))
      · refine V_ne (pc := 32) (t := 43) dX8_copy_32 (by decide) (fun h => absurd h (by decide)) (fun _ => ?_)
        refine V_al (pc := 35) dX8_copy_35 rfl ?_
        refine V_cVi0 (pc := 37) (jc_X8_258 dX8_copy_37 rfl) rfl rfl (Nat.le_of_ble_eq_true rfl) (hC.h10 hta) ?_
        refine d_missing hC hSH hta (fun mt1 => ?_) (fun mt0 => ?_)
        · refine V_eq (pc := 40) (t := 47) dX8_copy_40 (by decide) (fun h => absurd h (by decide)) (fun _ => ?_)
          refine V_ldcw (pc := 43) dX8_copy_43 (KC_X8_261 rfl) ?_
          refine V_iret (pc := 46) dX8_copy_46 rfl rfl ?_
          first
            | (unfold o_copy at h; rw [if_pos (by omega), cfa, cta, if_pos (Or.inl mf1)] at h; exact h S _ _ _ (NX.rf4 hI 294))
            | (unfold o_copy at h; rw [if_pos (by omega), cfa, cta, if_pos (Or.inr mt1)] at h; exact h S _ _ _ (NX.rf4 hI 294))
        · refine V_eq (pc := 40) (t := 47) dX8_copy_40 (by decide) (fun _ => ?_) (fun h => absurd h (by decide))
          refine V_al (pc := 47) dX8_copy_47 rfl ?_
          refine V_gie (pc := 49) 2 0 64 dX8_copy_49 (FL_X8_264 rfl) rfl rfl (hC.h10 hfa) (hSH.2 fa hfa).1 ?_
          refine V_al (pc := 52) dX8_copy_52 rfl ?_
          refine V_gie (pc := 54) 2 0 64 dX8_copy_54 (FL_X8_264 rfl) rfl rfl (hC.h10 hta) (hSH.2 ta hta).1 ?_
          refine V_ceq (pc := 57) (t := 63) dX8_copy_57 (by decide) (fun h57 => ?_) (fun h57 => ?_)
          · refine V_al (pc := 63) dX8_copy_63 rfl ?_
            refine V_iln (pc := 65) dX8_copy_65 rfl rfl ?_
            refine V_il (pc := 66) dX8_copy_66 rfl ?_
            refine V_cVi0 (pc := 68) (jc_X8_281 dX8_copy_68 rfl) rfl rfl (Nat.le_of_ble_eq_true rfl) (hC.h10 hfa) ?_
            obtain ⟨zf, hzf, ezf⟩ := (hSI fa hfa).2
            have tzf : (nI zf).toInt = zf := nI_toInt (by omega)
            obtain ⟨zt, hzt, ezt⟩ := (hSI ta hta).2
            have tzt : (nI zt).toInt = zt := nI_toInt (by omega)
            refine d_hasRow hC hSH hfa hzf ezf (fun pp mm hpm epp emm => ?_) (fun r0 => ?_)
            · subst epp; subst emm
              have tpp : (nI pp).toInt = pp := nI_toInt (by omega)
              have tmm : (nI mm).toInt = mm := nI_toInt (by omega)
              have cpp : (nI pp).toNatClampNeg = pp := nI_clamp (by omega)
              have cmm : (nI mm).toNatClampNeg = mm := nI_clamp (by omega)
              refine V_eq (pc := 71) (t := 86) dX8_copy_71 (by decide) (fun h => absurd h (by decide)) (fun _ => ?_)
              refine V_al (pc := 74) dX8_copy_74 rfl ?_
              refine V_il (pc := 76) dX8_copy_76 rfl ?_
              refine V_il (pc := 78) dX8_copy_78 rfl ?_
              refine V_cVi0 (pc := 80) (jc_X8_281 dX8_copy_80 rfl) rfl rfl (Nat.le_of_ble_eq_true rfl) (hC.h10 hta) ?_
              refine d_hasRow hC hSH hta hzt ezt (fun aa m2 hpa eaa em2 => ?_) (fun r0 => ?_)
              · subst eaa
                have e2 : mm = m2 := (nI_eq (by omega) (by omega)).mp em2
                subst e2
                have taa : (nI aa).toInt = aa := nI_toInt (by omega)
                have caa : (nI aa).toNatClampNeg = aa := nI_clamp (by omega)
                refine V_ne (pc := 83) (t := 90) dX8_copy_83 (by decide) (fun _ => ?_) (fun h => absurd h (by decide))
                refine V_al (pc := 90) dX8_copy_90 rfl ?_
                refine V_gr (pc := 92) 2 2 66 dX8_copy_92 (FL_X8_269 rfl) rfl rfl (hC.h10 hfa) (hC.sh hfa).2 ?_
                refine V_iln (pc := 95) dX8_copy_95 rfl rfl ?_
                refine V_al (pc := 96) dX8_copy_96 rfl ?_
                refine V_gr (pc := 98) 2 2 66 dX8_copy_98 (FL_X8_269 rfl) rfl rfl (hC.h10 hta) (hC.sh hta).2 ?_
                refine V_il (pc := 101) dX8_copy_101 rfl ?_
                refine V_il (pc := 103) dX8_copy_103 rfl ?_
                refine V_acp (pc := 105) pp aa mm 24 24 (ja_X8_284 dX8_copy_105 rfl) (by omega) (Nat.le_of_ble_eq_true rfl) (hC.h14 hfa).1 (hC.h14 hta).1 (hC.h14 hfa).2 (hC.h14 hta).2 rfl rfl rfl (by omega) (by omega) (by decide) (by decide) ?_
                refine V_il (pc := 108) dX8_copy_108 rfl ?_
                refine V_iret (pc := 110) dX8_copy_110 rfl rfl ?_
                unfold o_copy at h
                rw [if_pos (by omega), cfa, cta, if_neg (fun q => q.elim mf0 mt0), if_neg (fun q => q h57), if_pos (by rw [ezf, ezt, tzf, tzt]; omega), cpp, caa, cmm] at h
                refine h _ _ _ _ (hI.places hta (fun i j hi hj => ?_))
                show cpd (A 294) (24 * fa + pp) (24 * ta + aa) mm (24 * i + j) = _
                unfold cpd
                rw [cpy_at]
                by_cases e : i = ta
                · subst e
                  rw [if_pos rfl]
                  by_cases w : aa ≤ j ∧ j < aa + mm
                  · rw [if_pos (by omega), if_pos w, (hSH.2 fa hfa).2.2 _ (by omega)]
                    exact congrArg (A 294) (by omega)
                  · rw [if_neg (by omega), if_neg w]; exact ((hSH.2 i hta).2.2 j hj).symm
                · rw [if_neg (by omega), if_neg e]
              · refine V_ne (pc := 83) (t := 90) dX8_copy_83 (by decide) (fun h => absurd h (by decide)) (fun _ => ?_)
                refine V_ldcw (pc := 86) dX8_copy_86 (KC_X8_263 rfl) ?_
                refine V_iret (pc := 89) dX8_copy_89 rfl rfl ?_
                unfold o_copy at h
                rw [if_pos (by omega), cfa, cta, if_neg (fun q => q.elim mf0 mt0), if_neg (fun q => q h57), if_neg (by rw [ezf, ezt, tzf, tzt]; omega)] at h
                exact h S _ _ _ (NX.rf4 hI 294)
            · refine V_eq (pc := 71) (t := 86) dX8_copy_71 (by decide) (fun _ => ?_) (fun h => absurd h (by decide))
              refine V_ldcw (pc := 86) dX8_copy_86 (KC_X8_263 rfl) ?_
              refine V_iret (pc := 89) dX8_copy_89 rfl rfl ?_
              unfold o_copy at h
              rw [if_pos (by omega), cfa, cta, if_neg (fun q => q.elim mf0 mt0), if_neg (fun q => q h57), if_neg (by rw [ezf, ezt, tzf, tzt]; omega)] at h
              exact h S _ _ _ (NX.rf4 hI 294)
          · refine V_ldc (pc := 60) dX8_copy_60 (KC_X8_103 rfl) ?_
            refine V_iret (pc := 62) dX8_copy_62 rfl rfl ?_
            unfold o_copy at h
            rw [if_pos (by omega), cfa, cta, if_neg (fun q => q.elim mf0 mt0), if_pos h57] at h
            exact h S _ _ _ (NX.rf4 hI 294)
    · refine V_asN (pc := 12) (ls' := [(0, .ref cc), (1, .int (nI fa)), (2, .int p), (3, .int t), (4, .int a), (5, .int N), (6, .ref ((ct (10 + fa)))), (7, .null)]) dX8_copy_12 (by decide) rfl ?_
      refine V_al (pc := 14) dX8_copy_14 rfl ?_
      refine V_ifnull (pc := 16) (t := 24) dX8_copy_16 (by decide) ?_
      refine V_alN (pc := 19) dX8_copy_19 rfl ?_
      refine V_ifnonnullN (pc := 21) (t := 27) dX8_copy_21 (by decide) ?_
      refine V_ldc (pc := 24) dX8_copy_24 (KC_X8_60 rfl) ?_
      refine V_iret (pc := 26) dX8_copy_26 rfl rfl ?_
      unfold o_copy at h
      rw [if_neg (by omega)] at h
      exact h S _ _ _ (NX.rf4 hI 294)
  · refine V_asN (pc := 5) (ls' := [(0, .ref cc), (1, .int f), (2, .int p), (3, .int t), (4, .int a), (5, .int N), (6, .null)]) dX8_copy_5 (by decide) rfl ?_
    refine V_aln (pc := 7) dX8_copy_7 rfl rfl ?_
    refine V_iln (pc := 8) dX8_copy_8 rfl rfl ?_
    refine V_cVr0 (pc := 9) (jc_X8_249 dX8_copy_9 rfl) rfl rfl (Nat.le_of_ble_eq_true rfl) hC.1 ?_
    refine c_sheetAt hC (fun ta hta eta tta cta => ?_) (fun s0ta => ?_)
    · subst eta
      refine V_as (pc := 12) (ls' := [(0, .ref cc), (1, .int f), (2, .int p), (3, .int (nI ta)), (4, .int a), (5, .int N), (6, .null), (7, .ref ((ct (10 + ta))))]) dX8_copy_12 (by decide) rfl ?_
      refine V_alN (pc := 14) dX8_copy_14 rfl ?_
      refine V_ifnullN (pc := 16) (t := 24) dX8_copy_16 (by decide) ?_
      refine V_ldc (pc := 24) dX8_copy_24 (KC_X8_60 rfl) ?_
      refine V_iret (pc := 26) dX8_copy_26 rfl rfl ?_
      unfold o_copy at h
      rw [if_neg (by omega)] at h
      exact h S _ _ _ (NX.rf4 hI 294)
    · refine V_asN (pc := 12) (ls' := [(0, .ref cc), (1, .int f), (2, .int p), (3, .int t), (4, .int a), (5, .int N), (6, .null), (7, .null)]) dX8_copy_12 (by decide) rfl ?_
      refine V_alN (pc := 14) dX8_copy_14 rfl ?_
      refine V_ifnullN (pc := 16) (t := 24) dX8_copy_16 (by decide) ?_
      refine V_ldc (pc := 24) dX8_copy_24 (KC_X8_60 rfl) ?_
      refine V_iret (pc := 26) dX8_copy_26 rfl rfl ?_
      unfold o_copy at h
      rw [if_neg (by omega)] at h
      exact h S _ _ _ (NX.rf4 hI 294)
theorem fpour_s (σ tn : Nat → Int32) (i : Nat) {z k : Nat} (hk : k < z) : fpour σ tn i (min z (k + 1)) = (upd (fpour σ tn i (min z k)).1 (14 + 4 * k + 2) (pr1 (tn (24 * i + k)) ((fpour σ tn i (min z k)).1 (14 + 4 * k + 2))), (fpour σ tn i (min z k)).2 + (if pr1 (tn (24 * i + k)) ((fpour σ tn i (min z k)).1 (14 + 4 * k + 2)) = (fpour σ tn i (min z k)).1 (14 + 4 * k + 2) then 0 else 1)) := by
  rw [Nat.min_eq_right (show k + 1 ≤ z by omega), Nat.min_eq_right (show k ≤ z by omega)]; rfl
theorem fpour_e (σ tn : Nat → Int32) (i : Nat) {z k : Nat} (hk : ¬ k < z) : fpour σ tn i (min z (k + 1)) = fpour σ tn i (min z k) := by
  rw [Nat.min_eq_left (show z ≤ k + 1 by omega), Nat.min_eq_left (show z ≤ k by omega)]
theorem fpour_VI {σ tn : Nat → Int32} {i n : Nat} (h : VI σ n) (hn : n ≤ 10) : ∀ k, k ≤ 10 → VI (fpour σ tn i k).1 n
  | 0, _ => h
  | k + 1, hk => by
    have ih := fpour_VI (tn := tn) (i := i) h hn k (by omega)
    show VI (upd (fpour σ tn i k).1 (14 + 4 * k + 2) (pr1 (tn (24 * i + k)) ((fpour σ tn i k).1 (14 + 4 * k + 2)))) n
    unfold pr1
    split
    · rw [fa_upd_same rfl]; exact ih
    · obtain ⟨g, hg, eg⟩ := hld_n (tn (24 * i + k)) (u := 999) (by decide)
      rw [show (999 : Int32) = nI 999 from rfl, eg]; exact ih.g2 hn (by omega) hg
set_option maxRecDepth 100000 in
set_option maxHeartbeats 1000000 in
theorem C_pour_L {x : pX} {d : Nat} {b : Nat × Nat} {Q : Int32 → pS → Prop} {S0 : pS} {cc m : Nat} {lv im tr ct as : Nat → Nat} {A : Nat → Nat → Int32} {F : Nat → Int32} {n nt np : Nat} (hI : IV S0 cc m lv im tr ct as A F n nt np) {i z : Nat} (hi : i < 4) (hz : z ≤ 24) (ez : A 293 i = nI z) (h : ∀ S2, wfr lv S0 S2 → WR S2 lv (fpour (A 288) (A 294) i (min z n)).1 → Q (nI (fpour (A 288) (A 294) i (min z n)).2) S2) : ∀ (c k : Nat), k + c = n → ∀ (S : pS), wfr lv S0 S → WR S lv ((fpour (A 288) (A 294) i (min z k))).1 → V x (d + 3) M_X8_pour (qi Q) b 29 [(0, .ref cc), (2, .ref ((ct (10 + i)))), (3, .int (nI (((fpour (A 288) (A 294) i (min z k)).2)))), (4, .int (nI k))] [] S := by
  intro c
  induction c with
  | zero =>
    intro k hk S hF hW
    have hC := hI.1.sp hF.1
    have hS := hI.1.wl.f hF
    have hMI := hI.2.2.1.2.2.1
    have hn := hMI.1.1
    have hn10 := hMI.1.2
    have mm := fpour_mk (A 288) (A 294) i (min z k) (by omega)
    have n2 : ((fpour (A 288) (A 294) i (min z k)).1) 0 = nI n := (mm 0 (by decide)).trans hn
    have hSH := hI.2.2.2.2.1.fr hF (fun j q => hI.1.nlt j (by unfold cIx; omega))
    have le := fpour_le (A 288) (A 294) i (min z k)
    refine V_il (pc := 29) dX8_pour_29 rfl ?_
    refine V_aln (pc := 31) dX8_pour_31 rfl rfl ?_
    refine V_gr (pc := 32) 8 0 256 dX8_pour_32 (FL_X8_10 rfl) rfl rfl hC.1 hC.rl ?_
    refine V_gie (pc := 35) 7 1 225 dX8_pour_35 (FL_X8_206 rfl) rfl rfl (hS.k 0 (by decide) rfl) (hW.1 225 0 0 (by decide)) ?_
    refine V_cge (pc := 38) (t := 113) dX8_pour_38 (by decide) (fun h38 => ?_) (fun h38 => ?_)
    · refine V_iln (pc := 113) dX8_pour_113 rfl rfl ?_
      refine V_iret (pc := 114) dX8_pour_114 rfl rfl ?_
      obtain rfl : k = n := by omega
      exact h S hF hW
    · exact absurd (by rw [n2]; exact nI_le (by omega) (by omega)) h38
  | succ c ih =>
    intro k hk S hF hW
    have hC := hI.1.sp hF.1
    have hS := hI.1.wl.f hF
    have hMI := hI.2.2.1.2.2.1
    have hn := hMI.1.1
    have hn10 := hMI.1.2
    have mm := fpour_mk (A 288) (A 294) i (min z k) (by omega)
    have n2 : ((fpour (A 288) (A 294) i (min z k)).1) 0 = nI n := (mm 0 (by decide)).trans hn
    have hSH := hI.2.2.2.2.1.fr hF (fun j q => hI.1.nlt j (by unfold cIx; omega))
    have le := fpour_le (A 288) (A 294) i (min z k)
    refine V_il (pc := 29) dX8_pour_29 rfl ?_
    refine V_aln (pc := 31) dX8_pour_31 rfl rfl ?_
    refine V_gr (pc := 32) 8 0 256 dX8_pour_32 (FL_X8_10 rfl) rfl rfl hC.1 hC.rl ?_
    refine V_gie (pc := 35) 7 1 225 dX8_pour_35 (FL_X8_206 rfl) rfl rfl (hS.k 0 (by decide) rfl) (hW.1 225 0 0 (by decide)) ?_
    refine V_cge (pc := 38) (t := 113) dX8_pour_38 (by decide) (fun h38 => ?_) (fun h38 => ?_)
    · exact absurd h38 (by rw [n2]; exact nI_ge (by omega) (by omega))
    · refine V_aln (pc := 41) dX8_pour_41 rfl rfl ?_
      refine V_gr (pc := 42) 8 0 256 dX8_pour_42 (FL_X8_10 rfl) rfl rfl hC.1 hC.rl ?_
      refine V_il (pc := 45) dX8_pour_45 rfl ?_
      refine V_cVr0 (pc := 47) (jc_X8_70 dX8_pour_47 rfl) rfl rfl (Nat.le_of_ble_eq_true rfl) (hS.k 0 (by decide) rfl) ?_
      refine w_weightAt hS hW n2 hn10 (fun k2 hk2 ek2 tk2 ck2 => ?_) (fun n0 => absurd ⟨by rw [nI_toInt (by omega)]; omega, by rw [nI_toInt (by omega)]; omega⟩ n0)
      · have e2 : k = k2 := (nI_eq (by omega) (by omega)).mp ek2
        subst e2
        refine V_as (pc := 50) (ls' := [(0, .ref cc), (2, .ref ((ct (10 + i)))), (3, .int (nI (((fpour (A 288) (A 294) i (min z k)).2)))), (4, .int (nI k)), (5, .ref ((lv (10 + k))))]) dX8_pour_50 (by decide) rfl ?_
        refine V_al (pc := 52) dX8_pour_52 rfl ?_
        refine V_ifnull (pc := 54) (t := 107) dX8_pour_54 (by decide) ?_
        refine V_aln (pc := 57) dX8_pour_57 rfl rfl ?_
        refine V_il (pc := 58) dX8_pour_58 rfl ?_
        refine V_cVi0 (pc := 60) (jc_X8_272 dX8_pour_60 rfl) rfl rfl (Nat.le_of_ble_eq_true rfl) (hC.h10 hi) ?_
        refine d_hasNumber hC hSH hi hz ez (fun j hj ej tj cj q => ?_) (fun j hj ej tj cj q => ?_) (fun j0 => ?_)
        · have e2 : k = j := (nI_eq (by omega) (by omega)).mp ej
          subst e2
          have eP := fpour_s (A 288) (A 294) i hj
          refine V_eq (pc := 63) (t := 107) dX8_pour_63 (by decide) (fun h => absurd h (by decide)) (fun _ => ?_)
          refine V_aln (pc := 66) dX8_pour_66 rfl rfl ?_
          refine V_gr (pc := 67) 2 2 66 dX8_pour_67 (FL_X8_269 rfl) rfl rfl (hC.h10 hi) (hC.sh hi).2 ?_
          refine V_il (pc := 70) dX8_pour_70 rfl ?_
          refine V_iae (pc := 72) (N := 24) k dX8_pour_72 (hC.h14 hi).1 (hC.h14 hi).2 (by decide) rfl (by omega) ((hSH.2 i hi).2.2 k (by omega)) ?_
          refine V_iconst (pc := 73) (v := 0) dX8_pour_73 (by decide) ?_
          refine V_sipush (pc := 74) (v := 999) dX8_pour_74 (by decide) ?_
          refine V_cSi0 (pc := 77) (jc_X8_275 dX8_pour_77 rfl) rfl rfl (Nat.le_of_ble_eq_true rfl) ?_
          refine c_held (by decide) ?_
          refine V_is (pc := 80) (fun y => [(0, .ref cc), (2, .ref ((ct (10 + i)))), (3, .int (nI (((fpour (A 288) (A 294) i (min z k)).2)))), (4, .int (nI k)), (5, .ref ((lv (10 + k)))), (6, .int y)]) dX8_pour_80 (by decide) (fun _ => rfl) (fun y80 ey80 => ?_)
          refine V_iln (pc := 82) dX8_pour_82 rfl rfl ?_
          refine V_al (pc := 83) dX8_pour_83 rfl ?_
          refine V_gie (pc := 85) 6 2 194 dX8_pour_85 (FL_X8_83 rfl) rfl rfl (hS.w (by omega)) (hW.1 194 (10 + k) (14 + 4 * k + 2) (by unfold cI; omega)) ?_
          refine V_il (pc := 88) dX8_pour_88 rfl ?_
          refine V_cne (pc := 90) (t := 97) dX8_pour_90 (by decide) (fun h90 => ?_) (fun h90 => ?_)
          · have nq : ¬ y80 = ((fpour (A 288) (A 294) i (min z k)).1) (14 + 4 * k + 2) := fun q => h90 q.symm
            refine V_iconst (pc := 97) (v := 1) dX8_pour_97 (by decide) ?_
            refine V_iadd (pc := 98) dX8_pour_98 ?_
            refine V_isn (pc := 99) (fun y => [(0, .ref cc), (2, .ref ((ct (10 + i)))), (3, .int y), (4, .int (nI k)), (5, .ref ((lv (10 + k)))), (6, .int y80)]) dX8_pour_99 rfl (by decide) (fun _ => rfl) (fun y99 ey99 => ?_)
            obtain rfl : y99 = nI ((fpour (A 288) (A 294) i (min z (k + 1))).2) := by rw [ey99]; rw [eP]; unfold pr1; rw [if_neg q, ← ey80]; first | (rw [if_neg nq]; exact nI_add _ 1) | (rw [if_pos nq]; exact nI_add _ 0)
            refine V_al (pc := 100) dX8_pour_100 rfl ?_
            refine V_il (pc := 102) dX8_pour_102 rfl ?_
            refine V_pi (pc := 104) 6 2 194 dX8_pour_104 (FL_X8_83 rfl) rfl rfl rfl (hS.w (by omega)) ?_
            have hW104 := hW.I hS (f := 194) (i := (10 + k)) (k := (14 + 4 * k + 2)) (by unfold cI; omega) y80
            have hF104 := (wfr.rf (ad := lv) (P := S)).I (i := (10 + k)) (by unfold wIx; omega) (by omega) (by omega) 194 y80
            refine V_inc (pc := 107) (fun y => [(0, .ref cc), (2, .ref ((ct (10 + i)))), (3, .int (nI ((fpour (A 288) (A 294) i (min z (k + 1))).2))), (4, .int y), (5, .ref ((lv (10 + k)))), (6, .int y80)]) (w := 1) dX8_pour_107 (by decide) (by decide) rfl (fun _ => rfl) (fun y107 ey107 => ?_)
            obtain rfl : y107 = nI (k + 1) := by rw [ey107]; exact nI_1 _
            refine V_goto (pc := 110) (t := 29) dX8_pour_110 (by decide) ?_
            refine V_lp [0, 1, 2, 3] (ls' := [(0, .ref cc), (2, .ref ((ct (10 + i)))), (3, .int (nI ((fpour (A 288) (A 294) i (min z (k + 1))).2))), (4, .int (nI (k + 1)))]) rfl ?_
            have w := ih (k + 1) (by omega)
            refine w _ (hF.tr hF104) ?_
            rw [eP]
            unfold pr1
            rw [if_neg q, ← ey80]
            exact hW104
          · have nq : y80 = ((fpour (A 288) (A 294) i (min z k)).1) (14 + 4 * k + 2) := h90.symm
            refine V_iconst (pc := 93) (v := 0) dX8_pour_93 (by decide) ?_
            refine V_goto (pc := 94) (t := 98) dX8_pour_94 (by decide) ?_
            refine V_iadd (pc := 98) dX8_pour_98 ?_
            refine V_isn (pc := 99) (fun y => [(0, .ref cc), (2, .ref ((ct (10 + i)))), (3, .int y), (4, .int (nI k)), (5, .ref ((lv (10 + k)))), (6, .int y80)]) dX8_pour_99 rfl (by decide) (fun _ => rfl) (fun y99 ey99 => ?_)
            obtain rfl : y99 = nI ((fpour (A 288) (A 294) i (min z (k + 1))).2) := by rw [ey99]; rw [eP]; unfold pr1; rw [if_neg q, ← ey80]; first | (rw [if_neg nq]; exact nI_add _ 1) | (rw [if_pos nq]; exact nI_add _ 0)
            refine V_al (pc := 100) dX8_pour_100 rfl ?_
            refine V_il (pc := 102) dX8_pour_102 rfl ?_
            refine V_pi (pc := 104) 6 2 194 dX8_pour_104 (FL_X8_83 rfl) rfl rfl rfl (hS.w (by omega)) ?_
            have hW104 := hW.I hS (f := 194) (i := (10 + k)) (k := (14 + 4 * k + 2)) (by unfold cI; omega) y80
            have hF104 := (wfr.rf (ad := lv) (P := S)).I (i := (10 + k)) (by unfold wIx; omega) (by omega) (by omega) 194 y80
            refine V_inc (pc := 107) (fun y => [(0, .ref cc), (2, .ref ((ct (10 + i)))), (3, .int (nI ((fpour (A 288) (A 294) i (min z (k + 1))).2))), (4, .int y), (5, .ref ((lv (10 + k)))), (6, .int y80)]) (w := 1) dX8_pour_107 (by decide) (by decide) rfl (fun _ => rfl) (fun y107 ey107 => ?_)
            obtain rfl : y107 = nI (k + 1) := by rw [ey107]; exact nI_1 _
            refine V_goto (pc := 110) (t := 29) dX8_pour_110 (by decide) ?_
            refine V_lp [0, 1, 2, 3] (ls' := [(0, .ref cc), (2, .ref ((ct (10 + i)))), (3, .int (nI ((fpour (A 288) (A 294) i (min z (k + 1))).2))), (4, .int (nI (k + 1)))]) rfl ?_
            have w := ih (k + 1) (by omega)
            refine w _ (hF.tr hF104) ?_
            rw [eP]
            unfold pr1
            rw [if_neg q, ← ey80]
            exact hW104
        · have e2 : k = j := (nI_eq (by omega) (by omega)).mp ej
          subst e2
          have eP : fpour (A 288) (A 294) i (min z (k + 1)) = (fpour (A 288) (A 294) i (min z k)) := by
            rw [fpour_s (A 288) (A 294) i hj]
            unfold pr1
            rw [if_pos q, fa_upd_same rfl, if_pos rfl]
            rfl
          refine V_eq (pc := 63) (t := 107) dX8_pour_63 (by decide) (fun _ => ?_) (fun h => absurd h (by decide))
          refine V_inc (pc := 107) (fun y => [(0, .ref cc), (2, .ref ((ct (10 + i)))), (3, .int (nI (((fpour (A 288) (A 294) i (min z k)).2)))), (4, .int y), (5, .ref ((lv (10 + k))))]) (w := 1) dX8_pour_107 (by decide) (by decide) rfl (fun _ => rfl) (fun y107 ey107 => ?_)
          obtain rfl : y107 = nI (k + 1) := by rw [ey107]; exact nI_1 _
          refine V_goto (pc := 110) (t := 29) dX8_pour_110 (by decide) ?_
          refine V_lp [0, 1, 2, 3] (ls' := [(0, .ref cc), (2, .ref ((ct (10 + i)))), (3, .int (nI (((fpour (A 288) (A 294) i (min z k)).2)))), (4, .int (nI (k + 1)))]) rfl ?_
          have w := ih (k + 1) (by omega)
          rw [eP] at w
          exact w S hF hW
        · have eP := fpour_e (A 288) (A 294) i (z := z) (k := k) (fun q => j0 (by rw [nI_toInt (by omega)]; omega))
          refine V_eq (pc := 63) (t := 107) dX8_pour_63 (by decide) (fun _ => ?_) (fun h => absurd h (by decide))
          refine V_inc (pc := 107) (fun y => [(0, .ref cc), (2, .ref ((ct (10 + i)))), (3, .int (nI (((fpour (A 288) (A 294) i (min z k)).2)))), (4, .int y), (5, .ref ((lv (10 + k))))]) (w := 1) dX8_pour_107 (by decide) (by decide) rfl (fun _ => rfl) (fun y107 ey107 => ?_)
          obtain rfl : y107 = nI (k + 1) := by rw [ey107]; exact nI_1 _
          refine V_goto (pc := 110) (t := 29) dX8_pour_110 (by decide) ?_
          refine V_lp [0, 1, 2, 3] (ls' := [(0, .ref cc), (2, .ref ((ct (10 + i)))), (3, .int (nI (((fpour (A 288) (A 294) i (min z k)).2)))), (4, .int (nI (k + 1)))]) rfl ?_
          have w := ih (k + 1) (by omega)
          rw [eP] at w
          exact w S hF hW
set_option maxRecDepth 100000 in
set_option maxHeartbeats 1000000 in
theorem C_pour {x : pX} {d : Nat} {S : pS} {Q : Int32 → pS → Prop} {cc m : Nat} {lv im tr ct as : Nat → Nat} {A : Nat → Nat → Int32} {F : Nat → Int32} {n nt np : Nat} (hI : IV S cc m lv im tr ct as A F n nt np) {i : Int32} (h : ∀ S2 n2 nt2 np2, NX S S2 cc m lv im tr ct as (uA A (o_pour (A 292) (A 293) (A 294) (A 288) n i).2) (F) n2 nt2 np2 → Q ((o_pour (A 292) (A 293) (A 294) (A 288) n i).1) S2) : PI x (d + 3) M_X8_pour [.ref cc, .int i] S Q := by
  have hC := hI.1
  have hMF := hI.2.1
  have hS := hC.wl
  have hW := hI.2.2.1.1
  have hX := hI.2.2.1.2.1
  have hMI := hI.2.2.1.2.2.1
  have hV := hI.2.2.1.2.2.2
  have hn := hMI.1.1
  have hn10 := hMI.1.2
  have ht := hMI.2.1.1
  have ht14 := hMI.2.1.2
  have hp := hMI.2.2.1.1
  have hp20 := hMI.2.2.1.2
  have hSH := hI.2.2.2.2.1
  have hSI := hSH.1
  have hSL := hI.2.2.2.2.2.1
  have hWQ := hI.2.2.2.2.2.2.1
  have hTP := hI.2.2.2.2.2.2.2
  refine PM_of (by decide +kernel) (Nat.le_of_ble_eq_true rfl) ?_
  show V x (d + 3) M_X8_pour (qi Q) (0, 0) 0 [(0, .ref cc), (1, .int i)] [] S
  refine V_aln (pc := 0) dX8_pour_0 rfl rfl ?_
  refine V_iln (pc := 1) dX8_pour_1 rfl rfl ?_
  refine V_cVr0 (pc := 2) (jc_X8_249 dX8_pour_2 rfl) rfl rfl (Nat.le_of_ble_eq_true rfl) hC.1 ?_
  refine c_sheetAt hC (fun k hk ek tk ck => ?_) (fun s0k => ?_)
  · subst ek
    refine V_asn (pc := 5) (ls' := [(0, .ref cc), (1, .int (nI k)), (2, .ref ((ct (10 + k))))]) dX8_pour_5 rfl (by decide) rfl ?_
    refine V_aln (pc := 6) dX8_pour_6 rfl rfl ?_
    refine V_ifnonnull (pc := 7) (t := 13) dX8_pour_7 (by decide) ?_
    refine V_aln (pc := 13) dX8_pour_13 rfl rfl ?_
    refine V_cVi0 (pc := 14) (jc_X8_258 dX8_pour_14 rfl) rfl rfl (Nat.le_of_ble_eq_true rfl) (hC.h10 hk) ?_
    refine d_missing hC hSH hk (fun m1 => ?_) (fun m0 => ?_)
    · refine V_eq (pc := 17) (t := 24) dX8_pour_17 (by decide) (fun h => absurd h (by decide)) (fun _ => ?_)
      refine V_ldcw (pc := 20) dX8_pour_20 (KC_X8_261 rfl) ?_
      refine V_iret (pc := 23) dX8_pour_23 rfl rfl ?_
      unfold o_pour at h
      rw [if_pos (by omega), ck, if_pos m1] at h
      exact h S _ _ _ (NX.rfu hI)
    · refine V_eq (pc := 17) (t := 24) dX8_pour_17 (by decide) (fun _ => ?_) (fun h => absurd h (by decide))
      refine V_iconst (pc := 24) (v := 0) dX8_pour_24 (by decide) ?_
      refine V_isn (pc := 25) (fun y => [(0, .ref cc), (1, .int (nI k)), (2, .ref ((ct (10 + k)))), (3, .int y)]) dX8_pour_25 rfl (by decide) (fun _ => rfl) (fun y25 ey25 => ?_)
      obtain rfl : y25 = nI 0 := ey25
      refine V_iconst (pc := 26) (v := 0) dX8_pour_26 (by decide) ?_
      refine V_is (pc := 27) (fun y => [(0, .ref cc), (1, .int (nI k)), (2, .ref ((ct (10 + k)))), (3, .int (nI 0)), (4, .int y)]) dX8_pour_27 (by decide) (fun _ => rfl) (fun y27 ey27 => ?_)
      obtain rfl : y27 = nI 0 := ey27
      obtain ⟨z, hz, ez⟩ := (hSI k hk).2
      have tz : (nI z).toInt = z := nI_toInt (by omega)
      have cz : (nI z).toNatClampNeg = z := nI_clamp (by omega)
      refine V_lp [0, 2, 3, 4] (ls' := [(0, .ref cc), (2, .ref ((ct (10 + k)))), (3, .int (nI 0)), (4, .int (nI 0))]) rfl ?_
      have em := Nat.min_eq_right (Nat.zero_le z)
      have w := C_pour_L (x := x) (d := d) (b := (0, 0)) (Q := Q) hI hk hz ez (fun S2 f2 W2 => ?_) n 0 (by omega) S wfr.rf (by rw [em]; exact hW)
      · rw [em] at w; exact w
      · have mm := fpour_mk (A 288) (A 294) k (min z n) (by omega)
        have e : o_pour (A 292) (A 293) (A 294) (A 288) n (nI k) = (nI (fpour (A 288) (A 294) k (min z n)).2, (fpour (A 288) (A 294) k (min z n)).1) := by unfold o_pour; rw [if_pos (by omega), ck, if_neg m0, ez, cz]
        rw [e] at h
        exact h S2 _ _ _ (hI.live f2 W2 mm.l (hMI.same mm) (fpour_VI hV hn10 _ (by omega)))
  · refine V_asnN (pc := 5) (ls' := [(0, .ref cc), (1, .int i), (2, .null)]) dX8_pour_5 rfl (by decide) rfl ?_
    refine V_alNn (pc := 6) dX8_pour_6 rfl rfl ?_
    refine V_ifnonnullN (pc := 7) (t := 13) dX8_pour_7 (by decide) ?_
    refine V_ldc (pc := 10) dX8_pour_10 (KC_X8_60 rfl) ?_
    refine V_iret (pc := 12) dX8_pour_12 rfl rfl ?_
    unfold o_pour at h
    rw [if_neg (by omega)] at h
    exact h S _ _ _ (NX.rfu hI)
set_option maxRecDepth 100000 in
set_option maxHeartbeats 1000000 in
theorem C_reads_L {x : pX} {d : Nat} {b : Nat × Nat} {Q : Int32 → pS → Prop} {S0 : pS} {cc m : Nat} {lv im tr ct as : Nat → Nat} {A : Nat → Nat → Int32} {F : Nat → Int32} {n nt np : Nat} (hI : IV S0 cc m lv im tr ct as A F n nt np) {s z i : Nat} {r : Option Nat} (hs : s < 4) (hz : z ≤ 24) (ez : A 293 s = nI z) (h : ∀ S2, wfr lv S0 S2 → WR S2 lv (A 288) → Q (orN r) S2) : ∀ (c k : Nat), k + c = z → ∀ (S : pS), wfr lv S0 S → WR S lv (A 288) → SPR S lv (A 288) nt i k → fread (A 288) (A 294) nt s i c k = r → V x (d + 6) M_X8_reads (qi Q) b 53 [(0, .ref cc), (3, .ref ((ct (10 + s)))), (5, .ref ((lv 7))), (6, .int (nI k))] [] S := by
  intro c
  induction c with
  | zero =>
    intro k hk S hF hW hP hr
    have hC := hI.1.sp hF.1
    have hS := hI.1.wl.f hF
    have hMI := hI.2.2.1.2.2.1
    have hX := hI.2.2.1.2.1.w hI.1.wl hF tl.rf
    have hSH := hI.2.2.2.2.1.fr hF (fun j q => hI.1.nlt j (by unfold cIx; omega))
    refine V_il (pc := 53) dX8_reads_53 rfl ?_
    refine V_aln (pc := 55) dX8_reads_55 rfl rfl ?_
    refine V_gie (pc := 56) 2 1 65 dX8_reads_56 (FL_X8_278 rfl) rfl rfl (hC.h10 hs) (hSH.2 s hs).2.1 ?_
    refine V_cge (pc := 59) (t := 104) dX8_reads_59 (by decide) (fun h59 => ?_) (fun h59 => ?_)
    · refine V_ldc (pc := 104) dX8_reads_104 (KC_X8_154 rfl) ?_
      refine V_iret (pc := 106) dX8_reads_106 rfl rfl ?_
      subst hr
      exact h S hF hW
    · exact absurd (by rw [ez]; exact nI_le (by omega) (by omega)) h59
  | succ c ih =>
    intro k hk S hF hW hP hr
    have hC := hI.1.sp hF.1
    have hS := hI.1.wl.f hF
    have hMI := hI.2.2.1.2.2.1
    have hX := hI.2.2.1.2.1.w hI.1.wl hF tl.rf
    have hSH := hI.2.2.2.2.1.fr hF (fun j q => hI.1.nlt j (by unfold cIx; omega))
    refine V_il (pc := 53) dX8_reads_53 rfl ?_
    refine V_aln (pc := 55) dX8_reads_55 rfl rfl ?_
    refine V_gie (pc := 56) 2 1 65 dX8_reads_56 (FL_X8_278 rfl) rfl rfl (hC.h10 hs) (hSH.2 s hs).2.1 ?_
    refine V_cge (pc := 59) (t := 104) dX8_reads_59 (by decide) (fun h59 => ?_) (fun h59 => ?_)
    · exact absurd h59 (by rw [ez]; exact nI_ge (by omega) (by omega))
    · refine V_aln (pc := 62) dX8_reads_62 rfl rfl ?_
      refine V_il (pc := 63) dX8_reads_63 rfl ?_
      refine V_cVi0 (pc := 65) (jc_X8_272 dX8_reads_65 rfl) rfl rfl (Nat.le_of_ble_eq_true rfl) (hC.h10 hs) ?_
      refine d_hasNumber hC hSH hs hz ez (fun j hj ej tj cj q => ?_) (fun j hj ej tj cj q => ?_) (fun j0 => absurd ⟨by rw [nI_toInt (by omega)]; omega, by rw [nI_toInt (by omega)]; omega⟩ j0)
      · have e2 : k = j := (nI_eq (by omega) (by omega)).mp ej
        subst e2
        refine V_eq (pc := 68) (t := 89) dX8_reads_68 (by decide) (fun h => absurd h (by decide)) (fun _ => ?_)
        refine V_aln (pc := 71) dX8_reads_71 rfl rfl ?_
        refine V_gr (pc := 72) 2 2 66 dX8_reads_72 (FL_X8_269 rfl) rfl rfl (hC.h10 hs) (hC.sh hs).2 ?_
        refine V_il (pc := 75) dX8_reads_75 rfl ?_
        refine V_iae (pc := 77) (N := 24) k dX8_reads_77 (hC.h14 hs).1 (hC.h14 hs).2 (by decide) rfl (by omega) ((hSH.2 s hs).2.2 k (by omega)) ?_
        refine V_al (pc := 78) dX8_reads_78 rfl ?_
        refine V_gie (pc := 80) 6 2 194 dX8_reads_80 (FL_X8_83 rfl) rfl rfl (hS.k 7 (by decide) rfl) hP.2.2.1 ?_
        refine V_ceq (pc := 83) (t := 89) dX8_reads_83 (by decide) (fun h83 => ?_) (fun h83 => ?_)
        · have e : fread (A 288) (A 294) nt s i (c + 1) k = fread (A 288) (A 294) nt s i c (k + 1) := by
            show (if ¬ A 294 (24 * s + k) = -1000000005 ∧ ¬ A 294 (24 * s + k) = (bh (A 288) nt i k).1 then some k else fread (A 288) (A 294) nt s i c (k + 1)) = _
            rw [if_neg (fun w => w.2 h83)]
          rw [e] at hr
          refine V_aln (pc := 89) dX8_reads_89 rfl rfl ?_
          refine V_gr (pc := 90) 8 0 256 dX8_reads_90 (FL_X8_10 rfl) rfl rfl hC.1 hC.rl ?_
          refine V_al (pc := 93) dX8_reads_93 rfl ?_
          refine V_cVv0 (pc := 95) (jc_X8_166 dX8_reads_95 rfl) rfl rfl (Nat.le_of_ble_eq_true rfl) (hS.k 0 (by decide) rfl) ?_
          refine w_wearSp hS hW hMI.2.1.1 hMI.2.1.2 hX hP (fun S2 f2 W2 P2 => ?_)
          refine V_inc (pc := 98) (fun y => [(0, .ref cc), (3, .ref ((ct (10 + s)))), (5, .ref ((lv 7))), (6, .int y)]) (w := 1) dX8_reads_98 (by decide) (by decide) rfl (fun _ => rfl) (fun y98 ey98 => ?_)
          obtain rfl : y98 = nI (k + 1) := by rw [ey98]; exact nI_1 _
          refine V_goto (pc := 101) (t := 53) dX8_reads_101 (by decide) ?_
          exact ih (k + 1) (by omega) S2 (hF.tr f2) W2 P2 hr
        · have e : fread (A 288) (A 294) nt s i (c + 1) k = some k := by
            show (if ¬ A 294 (24 * s + k) = -1000000005 ∧ ¬ A 294 (24 * s + k) = (bh (A 288) nt i k).1 then some k else fread (A 288) (A 294) nt s i c (k + 1)) = _
            rw [if_pos ⟨q, h83⟩]
          rw [e] at hr
          subst hr
          refine V_il (pc := 86) dX8_reads_86 rfl ?_
          refine V_iret (pc := 88) dX8_reads_88 rfl rfl ?_
          exact h S hF hW
      · have e2 : k = j := (nI_eq (by omega) (by omega)).mp ej
        subst e2
        have e : fread (A 288) (A 294) nt s i (c + 1) k = fread (A 288) (A 294) nt s i c (k + 1) := by
          show (if ¬ A 294 (24 * s + k) = -1000000005 ∧ ¬ A 294 (24 * s + k) = (bh (A 288) nt i k).1 then some k else fread (A 288) (A 294) nt s i c (k + 1)) = _
          rw [if_neg (fun w => w.1 q)]
        rw [e] at hr
        refine V_eq (pc := 68) (t := 89) dX8_reads_68 (by decide) (fun _ => ?_) (fun h => absurd h (by decide))
        refine V_aln (pc := 89) dX8_reads_89 rfl rfl ?_
        refine V_gr (pc := 90) 8 0 256 dX8_reads_90 (FL_X8_10 rfl) rfl rfl hC.1 hC.rl ?_
        refine V_al (pc := 93) dX8_reads_93 rfl ?_
        refine V_cVv0 (pc := 95) (jc_X8_166 dX8_reads_95 rfl) rfl rfl (Nat.le_of_ble_eq_true rfl) (hS.k 0 (by decide) rfl) ?_
        refine w_wearSp hS hW hMI.2.1.1 hMI.2.1.2 hX hP (fun S2 f2 W2 P2 => ?_)
        refine V_inc (pc := 98) (fun y => [(0, .ref cc), (3, .ref ((ct (10 + s)))), (5, .ref ((lv 7))), (6, .int y)]) (w := 1) dX8_reads_98 (by decide) (by decide) rfl (fun _ => rfl) (fun y98 ey98 => ?_)
        obtain rfl : y98 = nI (k + 1) := by rw [ey98]; exact nI_1 _
        refine V_goto (pc := 101) (t := 53) dX8_reads_101 (by decide) ?_
        exact ih (k + 1) (by omega) S2 (hF.tr f2) W2 P2 hr
set_option maxRecDepth 100000 in
set_option maxHeartbeats 1000000 in
theorem C_reads {x : pX} {d : Nat} {S : pS} {Q : Int32 → pS → Prop} {cc m : Nat} {lv im tr ct as : Nat → Nat} {A : Nat → Nat → Int32} {F : Nat → Int32} {n nt np : Nat} (hI : IV S cc m lv im tr ct as A F n nt np) {q w : Int32} (h : ∀ S2 n2 nt2 np2, NX S S2 cc m lv im tr ct as (A) (F) n2 nt2 np2 → Q (o_reads (A 292) (A 293) (A 294) (A 288) n nt q w) S2) : PI x (d + 6) M_X8_reads [.ref cc, .int q, .int w] S Q := by
  have hC := hI.1
  have hMF := hI.2.1
  have hS := hC.wl
  have hW := hI.2.2.1.1
  have hX := hI.2.2.1.2.1
  have hMI := hI.2.2.1.2.2.1
  have hV := hI.2.2.1.2.2.2
  have hn := hMI.1.1
  have hn10 := hMI.1.2
  have ht := hMI.2.1.1
  have ht14 := hMI.2.1.2
  have hp := hMI.2.2.1.1
  have hp20 := hMI.2.2.1.2
  have hSH := hI.2.2.2.2.1
  have hSI := hSH.1
  have hSL := hI.2.2.2.2.2.1
  have hWQ := hI.2.2.2.2.2.2.1
  have hTP := hI.2.2.2.2.2.2.2
  refine PM_of (by decide +kernel) (Nat.le_of_ble_eq_true rfl) ?_
  show V x (d + 6) M_X8_reads (qi Q) (0, 0) 0 [(0, .ref cc), (1, .int q), (2, .int w)] [] S
  refine V_aln (pc := 0) dX8_reads_0 rfl rfl ?_
  refine V_iln (pc := 1) dX8_reads_1 rfl rfl ?_
  refine V_cVr0 (pc := 2) (jc_X8_249 dX8_reads_2 rfl) rfl rfl (Nat.le_of_ble_eq_true rfl) hC.1 ?_
  refine c_sheetAt hC (fun s hs es ts cs => ?_) (fun s0s => ?_)
  · subst es
    refine V_asn (pc := 5) (ls' := [(0, .ref cc), (1, .int (nI s)), (2, .int w), (3, .ref ((ct (10 + s))))]) dX8_reads_5 rfl (by decide) rfl ?_
    refine V_aln (pc := 6) dX8_reads_6 rfl rfl ?_
    refine V_gr (pc := 7) 8 0 256 dX8_reads_7 (FL_X8_10 rfl) rfl rfl hC.1 hC.rl ?_
    refine V_iln (pc := 10) dX8_reads_10 rfl rfl ?_
    refine V_cVr0 (pc := 11) (jc_X8_70 dX8_reads_11 rfl) rfl rfl (Nat.le_of_ble_eq_true rfl) (hS.k 0 (by decide) rfl) ?_
    refine w_weightAt hS hW hn hn10 (fun i hi ei ti ci => ?_) (fun n0 => ?_)
    · subst ei
      refine V_as (pc := 14) (ls' := [(0, .ref cc), (1, .int (nI s)), (2, .int (nI i)), (3, .ref ((ct (10 + s)))), (4, .ref ((lv (10 + i))))]) dX8_reads_14 (by decide) rfl ?_
      refine V_aln (pc := 16) dX8_reads_16 rfl rfl ?_
      refine V_ifnull (pc := 17) (t := 25) dX8_reads_17 (by decide) ?_
      refine V_al (pc := 20) dX8_reads_20 rfl ?_
      refine V_ifnonnull (pc := 22) (t := 28) dX8_reads_22 (by decide) ?_
      refine V_aln (pc := 28) dX8_reads_28 rfl rfl ?_
      refine V_cVi0 (pc := 29) (jc_X8_258 dX8_reads_29 rfl) rfl rfl (Nat.le_of_ble_eq_true rfl) (hC.h10 hs) ?_
      refine d_missing hC hSH hs (fun m1 => ?_) (fun m0 => ?_)
      · refine V_eq (pc := 32) (t := 39) dX8_reads_32 (by decide) (fun h => absurd h (by decide)) (fun _ => ?_)
        refine V_ldcw (pc := 35) dX8_reads_35 (KC_X8_261 rfl) ?_
        refine V_iret (pc := 38) dX8_reads_38 rfl rfl ?_
        unfold o_reads at h
        rw [if_pos (by omega), cs, if_pos m1] at h
        exact h S _ _ _ (NX.rf hI)
      · refine V_eq (pc := 32) (t := 39) dX8_reads_32 (by decide) (fun _ => ?_) (fun h => absurd h (by decide))
        refine V_aln (pc := 39) dX8_reads_39 rfl rfl ?_
        refine V_gr (pc := 40) 8 0 256 dX8_reads_40 (FL_X8_10 rfl) rfl rfl hC.1 hC.rl ?_
        refine V_al (pc := 43) dX8_reads_43 rfl ?_
        refine V_cVr0 (pc := 45) (jc_X8_162 dX8_reads_45 rfl) rfl rfl (Nat.le_of_ble_eq_true rfl) (hS.k 0 (by decide) rfl) ?_
        refine w_spareAt hS hW nt (by omega) (fun S2 f2 W2 P2 => ?_)
        have hC2 := hC.sp f2.1
        have hS2 := hS.f f2
        have hSH2 := hSH.fr f2 (fun j q => hC.nlt j (by unfold cIx; omega))
        · refine V_as (pc := 48) (ls' := [(0, .ref cc), (1, .int (nI s)), (2, .int (nI i)), (3, .ref ((ct (10 + s)))), (4, .ref ((lv (10 + i)))), (5, .ref ((lv 7)))]) dX8_reads_48 (by decide) rfl ?_
          refine V_iconst (pc := 50) (v := 0) dX8_reads_50 (by decide) ?_
          refine V_is (pc := 51) (fun y => [(0, .ref cc), (1, .int (nI s)), (2, .int (nI i)), (3, .ref ((ct (10 + s)))), (4, .ref ((lv (10 + i)))), (5, .ref ((lv 7))), (6, .int y)]) dX8_reads_51 (by decide) (fun _ => rfl) (fun y51 ey51 => ?_)
          obtain rfl : y51 = nI 0 := ey51
          obtain ⟨z, hz, ez⟩ := (hSI s hs).2
          have tz : (nI z).toInt = z := nI_toInt (by omega)
          have cz : (nI z).toNatClampNeg = z := nI_clamp (by omega)
          refine V_lp [0, 3, 5, 6] (ls' := [(0, .ref cc), (3, .ref ((ct (10 + s)))), (5, .ref ((lv 7))), (6, .int (nI 0))]) rfl ?_
          refine C_reads_L hI hs hz ez (fun S3 f3 W3 => ?_) z 0 (by omega) S2 f2 W2 P2 rfl
          have e : o_reads (A 292) (A 293) (A 294) (A 288) n nt (nI s) (nI i) = orN (fread (A 288) (A 294) nt s i z 0) := by unfold o_reads; rw [if_pos (by omega), cs, if_neg m0, ci, ez, cz]
          rw [e] at h
          exact h S3 _ _ _ (hI.calm f3 W3)
    · refine V_asN (pc := 14) (ls' := [(0, .ref cc), (1, .int (nI s)), (2, .int w), (3, .ref ((ct (10 + s)))), (4, .null)]) dX8_reads_14 (by decide) rfl ?_
      refine V_aln (pc := 16) dX8_reads_16 rfl rfl ?_
      refine V_ifnull (pc := 17) (t := 25) dX8_reads_17 (by decide) ?_
      refine V_alN (pc := 20) dX8_reads_20 rfl ?_
      refine V_ifnonnullN (pc := 22) (t := 28) dX8_reads_22 (by decide) ?_
      refine V_ldc (pc := 25) dX8_reads_25 (KC_X8_60 rfl) ?_
      refine V_iret (pc := 27) dX8_reads_27 rfl rfl ?_
      unfold o_reads at h
      rw [if_neg (by omega)] at h
      exact h S _ _ _ (NX.rf hI)
  · refine V_asnN (pc := 5) (ls' := [(0, .ref cc), (1, .int q), (2, .int w), (3, .null)]) dX8_reads_5 rfl (by decide) rfl ?_
    refine V_aln (pc := 6) dX8_reads_6 rfl rfl ?_
    refine V_gr (pc := 7) 8 0 256 dX8_reads_7 (FL_X8_10 rfl) rfl rfl hC.1 hC.rl ?_
    refine V_iln (pc := 10) dX8_reads_10 rfl rfl ?_
    refine V_cVr0 (pc := 11) (jc_X8_70 dX8_reads_11 rfl) rfl rfl (Nat.le_of_ble_eq_true rfl) (hS.k 0 (by decide) rfl) ?_
    refine w_weightAt hS hW hn hn10 (fun i hi ei ti ci => ?_) (fun n0 => ?_)
    · subst ei
      refine V_as (pc := 14) (ls' := [(0, .ref cc), (1, .int q), (2, .int (nI i)), (3, .null), (4, .ref ((lv (10 + i))))]) dX8_reads_14 (by decide) rfl ?_
      refine V_alNn (pc := 16) dX8_reads_16 rfl rfl ?_
      refine V_ifnullN (pc := 17) (t := 25) dX8_reads_17 (by decide) ?_
      refine V_ldc (pc := 25) dX8_reads_25 (KC_X8_60 rfl) ?_
      refine V_iret (pc := 27) dX8_reads_27 rfl rfl ?_
      unfold o_reads at h
      rw [if_neg (by omega)] at h
      exact h S _ _ _ (NX.rf hI)
    · refine V_asN (pc := 14) (ls' := [(0, .ref cc), (1, .int q), (2, .int w), (3, .null), (4, .null)]) dX8_reads_14 (by decide) rfl ?_
      refine V_alNn (pc := 16) dX8_reads_16 rfl rfl ?_
      refine V_ifnullN (pc := 17) (t := 25) dX8_reads_17 (by decide) ?_
      refine V_ldc (pc := 25) dX8_reads_25 (KC_X8_60 rfl) ?_
      refine V_iret (pc := 27) dX8_reads_27 rfl rfl ?_
      unfold o_reads at h
      rw [if_neg (by omega)] at h
      exact h S _ _ _ (NX.rf hI)
