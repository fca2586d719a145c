/-! ===== new cells; a Text is made ===== -/
/-- old cells rest, new ones come behind them -/
def EX (P P' : pS) (N : List Nat) : Prop := gL P' = gL P ++ N ∧ ∀ a, a ∈ gL P → gK P' a = gK P a ∧ gN P' a = gN P a ∧ (∀ f, gR P' f a = gR P f a) ∧ gY P' a = gY P a ∧ (∀ f, gI P' f a = gI P f a) ∧ gX P' a = gX P a
section EXS
variable {P P' : pS} {N : List Nat} {a : Nat}
theorem EX.rf : EX P P [] := ⟨(List.append_nil _).symm, fun _ _ => ⟨rfl, rfl, fun _ => rfl, rfl, fun _ => rfl, rfl⟩⟩
theorem EX.sub (h : EX P P' N) {q : Nat} (hq : q ∈ gL P) : q ∈ gL P' := by rw [h.1]; exact List.mem_append_left _ hq
theorem EX.fresh (h : EX P P' N) (ha : a ∉ gL P') : a ∉ gL P := fun q => ha (h.sub q)
theorem EX.ne (_ : EX P P' N) (ha : a ∉ gL P) {q : Nat} (hq : q ∈ gL P) : q ≠ a := fun e => ha (e ▸ hq)
theorem EX.O (h : EX P P' N) (ha : a ∉ gL P') (k : Nat) : EX P (nO P' a k) (N ++ [a]) := by
  refine ⟨by show gL P' ++ [a] = _; rw [h.1, List.append_assoc], fun q hq => ?_⟩
  have n := h.ne (h.fresh ha) hq
  obtain ⟨h1, h2, h3, h4, h5, h6⟩ := h.2 q hq
  exact ⟨(va_up_ne _ _ n).trans h1, h2, fun f => (va_up_ne _ _ n).trans (h3 f), h4, fun f => (va_up_ne _ _ n).trans (h5 f), h6⟩
theorem EX.X (h : EX P P' N) (ha : a ∉ gL P') (k : Nat) : EX P (nX P' a k) (N ++ [a]) := by
  refine ⟨by show gL P' ++ [a] = _; rw [h.1, List.append_assoc], fun q hq => ?_⟩
  have n := h.ne (h.fresh ha) hq
  obtain ⟨h1, h2, h3, h4, h5, h6⟩ := h.2 q hq
  exact ⟨(va_up_ne _ _ n).trans h1, (va_up_ne _ _ n).trans h2, h3, h4, h5, (va_up_ne _ _ n).trans h6⟩
theorem EX.Y (h : EX P P' N) (ha : a ∉ gL P') (k j : Nat) : EX P (nY P' a k j) (N ++ [a]) := by
  refine ⟨by show gL P' ++ [a] = _; rw [h.1, List.append_assoc], fun q hq => ?_⟩
  have n := h.ne (h.fresh ha) hq
  obtain ⟨h1, h2, h3, h4, h5, h6⟩ := h.2 q hq
  exact ⟨(va_up_ne _ _ n).trans h1, (va_up_ne _ _ n).trans h2, h3, (va_up_ne _ _ n).trans h4, h5, h6⟩
theorem EX.wI (h : EX P P' N) (ha : a ∉ gL P) (f : Nat) (v : Int32) : EX P (sI P' f a v) N := ⟨h.1, fun q hq => by
  have n := h.ne ha hq
  obtain ⟨h1, h2, h3, h4, h5, h6⟩ := h.2 q hq
  exact ⟨h1, h2, h3, h4, fun g => by rw [gI_sI, if_neg (fun w => n w.2)]; exact h5 g, h6⟩⟩
theorem EX.wR (h : EX P P' N) (ha : a ∉ gL P) (f : Nat) (v : Option Nat) : EX P (sR P' f a v) N := ⟨h.1, fun q hq => by
  have n := h.ne ha hq
  obtain ⟨h1, h2, h3, h4, h5, h6⟩ := h.2 q hq
  exact ⟨h1, h2, fun g => by rw [gR_sR, if_neg (fun w => n w.2)]; exact h3 g, h4, h5, h6⟩⟩
theorem EX.wX (h : EX P P' N) (ha : a ∉ gL P) (r : Nat → Int32) : EX P (sX P' a r) N := ⟨h.1, fun q hq => by
  have n := h.ne ha hq
  obtain ⟨h1, h2, h3, h4, h5, h6⟩ := h.2 q hq
  exact ⟨h1, h2, h3, h4, h5, by rw [gX_sX, if_neg n]; exact h6⟩⟩
theorem EX.wY (h : EX P P' N) (ha : a ∉ gL P) (r : Nat → Option Nat) : EX P (sY P' a r) N := ⟨h.1, fun q hq => by
  have n := h.ne ha hq
  obtain ⟨h1, h2, h3, h4, h5, h6⟩ := h.2 q hq
  exact ⟨h1, h2, h3, by rw [gY_sY, if_neg n]; exact h4, h5, h6⟩⟩
theorem hkO {S : pS} {a q k j : Nat} (ha : a ∉ gL S) (h : hk S q k) : hk (nO S a j) q k := ⟨List.mem_append_left _ h.1, (va_up_ne _ _ (show q ≠ a from fun e => ha (e ▸ h.1))).trans h.2⟩
theorem hkX {S : pS} {a q k j : Nat} (ha : a ∉ gL S) (h : hk S q k) : hk (nX S a j) q k := ⟨List.mem_append_left _ h.1, (va_up_ne _ _ (show q ≠ a from fun e => ha (e ▸ h.1))).trans h.2⟩
theorem hkY {S : pS} {a q k i j : Nat} (ha : a ∉ gL S) (h : hk S q k) : hk (nY S a i j) q k := ⟨List.mem_append_left _ h.1, (va_up_ne _ _ (show q ≠ a from fun e => ha (e ▸ h.1))).trans h.2⟩
theorem hkO_s {S : pS} {a j : Nat} : hk (nO S a j) a j := ⟨List.mem_append_right _ List.mem_cons_self, va_up_self _ _ _⟩
theorem hkX_s {S : pS} {a j : Nat} : hk (nX S a j) a 10 := ⟨List.mem_append_right _ List.mem_cons_self, va_up_self _ _ _⟩
theorem hkY_s {S : pS} {a i j : Nat} : hk (nY S a i j) a i := ⟨List.mem_append_right _ List.mem_cons_self, va_up_self _ _ _⟩
end EXS
set_option maxRecDepth 100000 in
set_option maxHeartbeats 1000000 in
theorem j_copyOf {x : pX} {d : Nat} {S : pS} {Q : Option Nat → pS → Prop} {p n : Nat} (hp : hk S p 10) (hN : gN S p = 96) (hn : n < 96) (h : ∀ q, q ∉ gL S → Q (some q) (sX (nX S q n) q (va_cpy (gX S p) (fun _ => 0) 0 0 n))) : PR x (d + 2) M_J7_copyOf_59c91 [.ref p, .int (nI n)] S Q := by
  refine PM_of (by decide +kernel) (Nat.le_of_ble_eq_true rfl) ?_
  show V x (d + 2) M_J7_copyOf_59c91 (qr Q) (1, 96) 0 [(0, .ref p), (1, .int (nI n))] [] S
  refine V_iln (pc := 0) dJ7_copyOf_59c91_0 rfl rfl ?_
  refine V_aln (pc := 1) dJ7_copyOf_59c91_1 rfl rfl ?_
  refine V_len (pc := 2) (N := 96) dJ7_copyOf_59c91_2 hp hN ?_
  refine V_cne (pc := 3) (t := 14) dJ7_copyOf_59c91_3 (by decide) (fun h3 => ?_) (fun h3 => ?_)
  · refine V_iln (pc := 14) dJ7_copyOf_59c91_14 rfl rfl ?_
    refine V_na (pc := 15) n (ja_int dJ7_copyOf_59c91_15) rfl (by omega) (Nat.le_refl _) (show n ≤ 96 by omega) (fun q hq => ?_)
    have nq : p ≠ q := fun e => hq (e ▸ hp.1)
    refine V_asn (pc := 17) (ls' := [(0, .ref p), (1, .int (nI n)), (2, .ref q)]) dJ7_copyOf_59c91_17 rfl (by decide) rfl ?_
    refine V_aln (pc := 18) dJ7_copyOf_59c91_18 rfl rfl ?_
    refine V_iconst (pc := 19) (v := 0) dJ7_copyOf_59c91_19 (by decide) ?_
    refine V_aln (pc := 20) dJ7_copyOf_59c91_20 rfl rfl ?_
    refine V_iconst (pc := 21) (v := 0) dJ7_copyOf_59c91_21 (by decide) ?_
    refine V_aln (pc := 22) dJ7_copyOf_59c91_22 rfl rfl ?_
    refine V_len (pc := 23) (N := 96) dJ7_copyOf_59c91_23 (hkX hq hp) ((va_up_ne _ _ nq).trans hN) ?_
    refine V_iln (pc := 24) dJ7_copyOf_59c91_24 rfl rfl ?_
    refine V_min (pc := 25) (jm_J7_304 dJ7_copyOf_59c91_25 rfl) (by omega) (Nat.le_of_ble_eq_true rfl) ?_
    refine V_acp (pc := 28) 0 0 n 96 n (ja_J7_150 dJ7_copyOf_59c91_28 rfl) (by omega) (Nat.le_of_ble_eq_true rfl) (hkX hq hp) hkX_s ((va_up_ne _ _ nq).trans hN) (va_up_self _ _ _) rfl rfl (by rw [if_pos (Int32.not_le.mp (nI_ge hn (by decide)))]) (by omega) (by omega) (by decide) (by omega) ?_
    rw [show gX (nX S q n) p = gX S p from va_up_ne _ _ nq, show gX (nX S q n) q = (fun _ => 0) from va_up_self _ _ _]
    refine V_aln (pc := 31) dJ7_copyOf_59c91_31 rfl rfl ?_
    refine V_aret (pc := 32) dJ7_copyOf_59c91_32 rfl (Or.inr ⟨_, rfl⟩) ?_
    exact h q hq
  · exact absurd ((nI_eq (b := 96) (by omega) (by decide)).mp h3) (by omega)
set_option maxRecDepth 100000 in
set_option maxHeartbeats 1000000 in
theorem t_init {x : pX} {d : Nat} {S : pS} {Q : pS → Prop} {a n p : Nat} {key : Int32} (ha : hk S a 5) (hn : n ≤ 96) (h : ∀ q, q ∉ gL S → Q (sR (nX (sR (sI (sI S 160 a key) 161 a (nI n)) 162 a (some p)) q n) 163 a (some q))) : PV x (d + 2) M_X5_init [.ref a, .int key, .int (nI n), .ref p] S Q := by
  refine PM_of (by decide +kernel) (Nat.le_of_ble_eq_true rfl) ?_
  show V x (d + 2) M_X5_init (qv Q) (1, 96) 0 [(0, .ref a), (1, .int key), (2, .int (nI n)), (3, .ref p)] [] S
  refine V_aln (pc := 0) dX5_init_0 rfl rfl ?_
  refine V_oi (pc := 1) (jo_X5_1 dX5_init_1 rfl) (by omega) (Nat.le_of_ble_eq_true rfl) ?_
  refine V_aln (pc := 4) dX5_init_4 rfl rfl ?_
  refine V_iln (pc := 5) dX5_init_5 rfl rfl ?_
  refine V_pif (pc := 6) 5 0 160 dX5_init_6 (FL_X5_7 rfl) rfl rfl rfl rfl rfl ha ?_
  refine V_aln (pc := 9) dX5_init_9 rfl rfl ?_
  refine V_iln (pc := 10) dX5_init_10 rfl rfl ?_
  refine V_pif (pc := 11) 5 1 161 dX5_init_11 (FL_X5_13 rfl) rfl rfl rfl rfl rfl ha ?_
  refine V_aln (pc := 14) dX5_init_14 rfl rfl ?_
  refine V_aln (pc := 15) dX5_init_15 rfl rfl ?_
  refine V_prf (pc := 16) 5 2 162 dX5_init_16 (FL_X5_16 rfl) rfl rfl (fun _ => rfl) (fun _ => rfl) rfl rfl rfl ha ?_
  refine V_aln (pc := 19) dX5_init_19 rfl rfl ?_
  refine V_iconst (pc := 20) (v := 0) dX5_init_20 (by decide) ?_
  refine V_iln (pc := 21) dX5_init_21 rfl rfl ?_
  refine V_max (pc := 22) (jm_X5_20 dX5_init_22 rfl) (by omega) (Nat.le_of_ble_eq_true rfl) ?_
  refine V_na (pc := 25) n (ja_int dX5_init_25) ?_ (by omega) (Nat.le_refl _) (show n ≤ 96 by omega) (fun q hq => ?_)
  · by_cases e : (0 : Int32) < nI n
    · rw [if_pos e]
    · rw [if_neg e]; exact Int32.le_antisymm (Int32.not_lt.mp (nI_pos (by omega))) (Int32.not_lt.mp e)
  refine V_prf (pc := 27) 5 3 163 dX5_init_27 (FL_X5_26 rfl) rfl rfl (fun _ => rfl) (fun _ => rfl) rfl rfl rfl (hkX hq ha) ?_
  refine V_ret (pc := 30) dX5_init_30 rfl ?_
  exact h q hq
set_option maxRecDepth 100000 in
set_option maxHeartbeats 1000000 in
theorem r_faultPlace {x : pX} {d : Nat} {S : pS} {Q : Int32 → pS → Prop} {ct : Nat → Nat} (hX : hk S (ct 0) 1) {p : Nat} (hp : p ≤ 96) (e : gI S 36 (ct 0) = nI p) (h : Q (nI p) S) : PI x (d + 2) M_X1_faultPlace [.ref ((ct 0))] S Q := by
  refine PM_of (by decide +kernel) (Nat.le_of_ble_eq_true rfl) ?_
  show V x (d + 2) M_X1_faultPlace (qi Q) (0, 0) 0 [(0, .ref ((ct 0)))] [] S
  refine V_iconst (pc := 0) (v := 0) dX1_faultPlace_0 (by decide) ?_
  refine V_aln (pc := 1) dX1_faultPlace_1 rfl rfl ?_
  refine V_gie (pc := 2) 1 4 36 dX1_faultPlace_2 (FL_X1_32 rfl) rfl rfl hX rfl ?_
  refine V_max (pc := 5) (jm_X1_68 dX1_faultPlace_5 rfl) (by omega) (Nat.le_of_ble_eq_true rfl) ?_
  refine V_iret (pc := 8) dX1_faultPlace_8 rfl rfl ?_
  rw [e]
  by_cases q : (0 : Int32) < nI p
  · rw [if_pos q]; exact h
  · rw [if_neg q]
    have e0 : nI p = 0 := Int32.le_antisymm (Int32.not_lt.mp q) (Int32.not_lt.mp (nI_pos (by omega)))
    rw [← e0]; exact h
