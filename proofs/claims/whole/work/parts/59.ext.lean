/-! ===== what rests when a Text is made ===== -/
section EXT
variable {P P' : pS} {N : List Nat} {c m a q r : Nat} {lv im tr ct as ad : Nat → Nat} {A : Nat → Nat → Int32} {F : Nat → Int32} {n nt np : Nat} {σ τ : Nat → Int32}
theorem EX.ht (h : EX P P' N) {b k : Nat} (w : hk P b k) : hk P' b k := ⟨h.sub w.1, (h.2 b w.1).1.trans w.2⟩
theorem EX.gn (h : EX P P' N) {b k : Nat} (w : hk P b k) : gN P' b = gN P b := (h.2 b w.1).2.1
theorem EX.gr (h : EX P P' N) {b k : Nat} (w : hk P b k) (f : Nat) : gR P' f b = gR P f b := (h.2 b w.1).2.2.1 f
theorem EX.gy (h : EX P P' N) {b k : Nat} (w : hk P b k) : gY P' b = gY P b := (h.2 b w.1).2.2.2.1
theorem EX.gi (h : EX P P' N) {b k : Nat} (w : hk P b k) (f : Nat) : gI P' f b = gI P f b := (h.2 b w.1).2.2.2.2.1 f
theorem EX.gx (h : EX P P' N) {b k : Nat} (w : hk P b k) : gX P' b = gX P b := (h.2 b w.1).2.2.2.2.2
/-- a new Text, its steps, its stack -/
def NW (P P' : pS) (a q r : Nat) : Prop := EX P P' [a, q, r] ∧ (a ∉ gL P ∧ q ∉ gL P ∧ r ∉ gL P) ∧ (hk P' a 5 ∧ hk P' q 10 ∧ hk P' r 10) ∧ gR P' 162 a = some q ∧ gR P' 163 a = some r ∧ q ≠ r
theorem NW.old (h : NW P P' a q r) {b : Nat} (w : hk P' b 5) : hk P b 5 ∨ b = a := by
  have hm : b ∈ gL P ++ [a, q, r] := by rw [← h.1.1]; exact w.1
  rcases List.mem_append.mp hm with w1 | w1
  · exact Or.inl ⟨w1, (h.1.2 b w1).1.symm.trans w.2⟩
  · simp only [List.mem_cons, List.not_mem_nil, or_false] at w1
    rcases w1 with e | e | e
    · exact Or.inr e
    · rw [e] at w; exact absurd rfl (hk_ne w h.2.2.1.2.1 (by decide))
    · rw [e] at w; exact absurd rfl (hk_ne w h.2.2.1.2.2 (by decide))
theorem NW.stk (h : NW P P' a q r) {b : Nat} (w : stk P' b) : stk P b ∨ b = r := by
  obtain ⟨t, w1, w2⟩ := w
  rcases h.old w1 with o | e
  · exact Or.inl ⟨t, o, (h.1.gr o 163).symm.trans w2⟩
  · rw [e, h.2.2.2.2.1] at w2; exact Or.inr (Option.some.inj w2).symm
theorem NW.ne (h : NW P P' a q r) {b k : Nat} (w : hk P b k) : b ≠ a ∧ b ≠ q ∧ b ≠ r := ⟨fun e => h.2.1.1 (e ▸ w.1), fun e => h.2.1.2.1 (e ▸ w.1), fun e => h.2.1.2.2 (e ▸ w.1)⟩
theorem WS.ext (w : WS P ad) (h : NW P P' a q r) (hx : ∀ t b, hk P t 5 → gR P 162 t = some b → hk P b 10) : WS P' ad := by
  obtain ⟨w1, w2, w3, w4, w5, w6, w7⟩ := w
  have k0 := w1 0 (by decide)
  have k3 := w1 3 (by decide)
  refine ⟨fun i hi => h.1.ht (w1 i hi), fun i hi => ?_, ?_, fun i hi => by rw [h.1.gy (w1 1 (by decide))]; exact w4 i hi, w5, fun b wb => ?_, fun t b w8 w9 => ?_⟩
  · have hw : wIx i := by
      simp only [List.mem_cons, List.not_mem_nil, or_false] at hi
      unfold wIx; omega
    rw [h.1.gn (w1 i hw)]; exact w2 i hi
  · rw [h.1.gr k0, h.1.gr k0, h.1.gr k0, h.1.gr k0, h.1.gr k0, h.1.gr k0, h.1.gr k0, h.1.gr k3]; exact w3
  · rcases h.stk wb with o | e
    · exact ⟨h.1.ht (w6 b o).1, (w6 b o).2⟩
    · rw [e]; exact ⟨h.2.2.1.2.2, fun i hi => (h.ne (w1 i hi)).2.2.symm⟩
  · rcases h.old w8 with o | e
    · have w9' := (h.1.gr o 162).symm.trans w9
      obtain ⟨p1, p2⟩ := w7 t b o w9'
      refine ⟨fun s => ?_, p2⟩
      rcases h.stk s with s | s
      · exact p1 s
      · exact (h.ne (hx t b o w9')).2.2 s
    · rw [e, h.2.2.2.1] at w9
      obtain rfl := Option.some.inj w9
      refine ⟨fun s => ?_, fun i hi => (h.ne (w1 i hi)).2.1.symm⟩
      rcases h.stk s with s | s
      · exact h.2.1.2.1 (w6 _ s).1.1
      · exact h.2.2.2.2.2 s
theorem WY.ext (w : WY P ad) (h : NW P P' a q r) (h5 : hk P (ad 5) 13) : WY P' ad := fun k hk t e => h.1.ht (w k hk t (by rw [← h.1.gy h5]; exact e))
theorem CS.ext (w : CS P c lv im tr ct as) (h : NW P P' a q r) : CS P' c lv im tr ct as := by
  have hx : ∀ t b, hk P t 5 → gR P 162 t = some b → hk P b 10 := fun t b u v => (w.tx u (Or.inl v)).1
  have y5 : ∀ ad, WS P ad → hk P (ad 5) 13 := fun ad u => u.k 5 (by decide) rfl
  have wl := w.wl
  have wi := w.wi
  have wt := w.wt
  obtain ⟨h1, h2, h3, h4, h5, h6, h7, h8, h9, h10, h11⟩ := w
  have kk : ∀ i, cIx i → hk P (ct i) (cK i) := fun i hi => (h2 i hi).1
  refine ⟨h.1.ht h1, fun i hi => ⟨h.1.ht (kk i hi), fun e => by rw [h.1.gn (kk i hi)]; exact (h2 i hi).2 e⟩, ?_, fun k hk => ?_, fun k hk => ?_, h6, ⟨⟨wl.ext h hx, wi.ext h hx, wt.ext h hx⟩, h7.2.1.ext h (y5 _ wl), h7.2.2.1.ext h (y5 _ wi), h7.2.2.2.ext h (y5 _ wt)⟩, h8, h9, fun t b u v => ?_, fun f hf => ⟨h.1.ht (h11 f hf).1, (h11 f hf).2⟩⟩
  · rw [h.1.gr h1, h.1.gr h1, h.1.gr h1, h.1.gr h1, h.1.gr h1, h.1.gr h1, h.1.gr h1, h.1.gr h1, h.1.gr (kk 0 (by decide)), h.1.gr (kk 0 (by decide)), h.1.gr (kk 1 (by decide))]; exact h3
  · rw [h.1.gy (kk 4 (by decide)), h.1.gr (kk (10 + k) (by unfold cIx; omega))]; exact h4 k hk
  · rw [h.1.gy (kk 5 (by decide)), h.1.gr (kk (20 + k) (by unfold cIx; omega)), h.1.gr (kk (20 + k) (by unfold cIx; omega)), h.1.gr (kk (30 + k) (by unfold cIx; omega))]; exact h5 k hk
  · rcases h.old u with o | e
    · rw [h.1.gr o, h.1.gr o] at v
      obtain ⟨p1, p2, p3⟩ := h10 t b o v
      exact ⟨h.1.ht p1, p2, p3⟩
    · rw [e, h.2.2.2.1, h.2.2.2.2.1] at v
      rcases v with v | v <;> obtain rfl := Option.some.inj v
      · exact ⟨h.2.2.1.2.1, fun i hi => (h.ne (kk i hi)).2.1.symm, fun f hf => (h.ne (h11 f hf).1).2.1.symm⟩
      · exact ⟨h.2.2.1.2.2, fun i hi => (h.ne (kk i hi)).2.2.symm, fun f hf => (h.ne (h11 f hf).1).2.2.symm⟩
theorem EX.kp (h : EX P P' N) : KP m as P P' := fun b hb => by
  obtain ⟨h1, h2, h3, h4, h5, h6⟩ := h.2 b hb
  exact ⟨h.sub hb, h1, h2, h3, fun _ => ⟨h5, h6⟩⟩
theorem TO.ext {t u : Nat} (o : TO P u σ t) (h : EX P P' N) : TO P' u σ t := by
  obtain ⟨q1, q2, q3, a, c, many, pcs, r1, r2, r3, r4, r5, r6, r7, r8, r9⟩ := o
  exact ⟨h.ht q1, by rw [h.gi q1]; exact q2, by rw [h.gi q1]; exact q3, a, c, many, pcs, by rw [h.gr q1]; exact r1, h.ht r2, by rw [h.gn r2]; exact r3, r4, by rw [h.gx r2]; exact r5, by rw [h.gr q1]; exact r6, h.ht r7, by rw [h.gn r7]; exact r8, r9⟩
theorem LV.ext (w : LV P ad σ n nt np) (hS : WS P ad) (h : EX P P' N) : LV P' ad σ n nt np := by
  obtain ⟨w1, w2, w3⟩ := w
  refine ⟨⟨fun f i k hc => by rw [h.gi (hS.1 i (by unfold cI at hc; unfold wIx; omega))]; exact w1.1 f i k hc, fun j hj => by rw [h.gx (hS.1 2 (by decide))]; exact w1.2.1 j hj, fun j hj => by rw [h.gx (hS.1 4 (by decide))]; exact w1.2.2 j hj⟩, ⟨fun t ht => ?_, fun k hk => by rw [h.gx (hS.1 6 (by decide))]; exact w2.2 k hk⟩, w3⟩
  obtain ⟨u, e, o⟩ := w2.1 t ht
  exact ⟨u, by rw [h.gy (hS.1 5 (by decide))]; exact e, o.ext h⟩
theorem CC.ext (w : CC P c lv im ct A F n nt np) (hC : CS P c lv im tr ct as) (h : EX P P' N) : CC P' c lv im ct A F n nt np := by
  obtain ⟨w1, w2, w3, w4, w5, w6⟩ := w
  have kk : ∀ i, cIx i → hk P (ct i) (cK i) := fun i hi => (hC.2.1 i hi).1
  refine ⟨w1.ext hC.wl h, ⟨by rw [h.gi hC.1]; exact w2.1, ?_⟩, ⟨w3.1, fun k hk => ?_⟩, ⟨w4.1, fun k hk => ?_⟩, ⟨w5.1, by rw [h.gi hC.1]; exact w5.2.1, by rw [h.gx (kk 6 (by decide))]; exact w5.2.2⟩, ⟨w6.1, by rw [h.gi (kk 1 (by decide))]; exact w6.2.1, by rw [h.gx (kk 2 (by decide))]; exact w6.2.2.1, w6.2.2.2⟩⟩
  · rcases w2.2 with u | ⟨u, n, nt, np, v⟩
    · exact Or.inl u
    · exact Or.inr ⟨u, n, nt, np, fun τ e => (v τ e).ext hC.wi h⟩
  · rw [h.gi (kk (10 + k) (by unfold cIx; omega)), h.gi (kk (10 + k) (by unfold cIx; omega)), h.gx (kk (14 + k) (by unfold cIx; omega))]; exact w3.2 k hk
  · have e1 : ∀ f, gI P' f (ct (20 + k)) = gI P f (ct (20 + k)) := fun f => h.gi (kk (20 + k) (by unfold cIx; omega)) f
    have e2 : ∀ f, gI P' f (ct (25 + k)) = gI P f (ct (25 + k)) := fun f => h.gi (kk (25 + k) (by unfold cIx; omega)) f
    have e3 : ∀ f, gI P' f (ct (30 + k)) = gI P f (ct (30 + k)) := fun f => h.gi (kk (30 + k) (by unfold cIx; omega)) f
    rw [e1, e1, e2, e2, e2, e3, h.gx (kk (35 + k) (by unfold cIx; omega))]
    exact w4.2 k hk
theorem IV.ext (w : IV P c m lv im tr ct as A F n nt np) (h : NW P P' a q r) : NX P P' c m lv im tr ct as A F n nt np := ⟨h.1.kp, w.1.ext h, (h.1.kp (m := m) (as := as)).mf w.2.1, w.2.2.ext w.1 h.1⟩
/-- what the reader touches is nobody's -/
theorem IV.reader (w : IV P c m lv im tr ct as A F n nt np) (hf : fr (rT ct) P P') : NX P P' c m lv im tr ct as A F n nt np := by
  have hT : oT c ct (rT ct) := fun b u => by
    rcases u with u | u
    · exact Or.inr ⟨0, by decide, u⟩
    · exact Or.inr ⟨3, by decide, u⟩
  have hn : ∀ i, cIx i → i ≠ 0 → i ≠ 3 → ¬ rT ct (ct i) := fun i hi h0 h3 u => by
    rcases u with u | u
    · exact h0 (w.1.inj hi (by decide) u)
    · exact h3 (w.1.inj hi (by decide) u)
  have hc : ¬ rT ct c := fun u => by
    rcases u with u | u
    · exact w.1.cne (i := 0) (by decide) u.symm
    · exact w.1.cne (i := 3) (by decide) u.symm
  obtain ⟨w1, w2, w3, w4, w5, w6⟩ := w.2.2
  exact w.own hf hT rfl (w2.fr hf hc (fun i hi => (w.1.o_w hT i hi).2.1) (w.1.o_x hT)) (w3.fr hf (fun i u => hn i (by unfold cIx; omega) (by omega) (by omega))) (w4.fr hf (fun i u => hn i (by unfold cIx; omega) (by omega) (by omega))) (w5.fr hf hc (hn 6 (by decide) (by decide) (by decide))) (w6.fr hf (hn 1 (by decide) (by decide) (by decide)) (hn 2 (by decide) (by decide) (by decide)))
theorem mkT_nw {S : pS} {n pcs : Nat} {key : Int32} {s : Nat → Int32} (ha : a ∉ gL S) (hq : q ∉ gL (nO S a 5)) (hr : r ∉ gL (nX (nO S a 5) q n)) : NW S (mkT S a q r n pcs key s) a q r := by
  have hq' : q ∉ gL S := fun w => hq (List.mem_append_left _ w)
  have hr1 : r ∉ gL (nO S a 5) := fun w => hr (List.mem_append_left _ w)
  have hr' : r ∉ gL S := fun w => hr1 (List.mem_append_left _ w)
  have aq : a ≠ q := fun e => hq (by rw [← e]; exact hkO_s.1)
  have ar : a ≠ r := fun e => hr1 (by rw [← e]; exact hkO_s.1)
  have qr : q ≠ r := fun e => hr (by rw [← e]; exact hkX_s.1)
  have e1 := ((((((EX.rf (P := S)).O ha 5).X (by exact hq) n).wX hq' (va_cpy s (fun _ => 0) 0 0 n)).wI ha 160 key).wI ha 161 (nI pcs)).wR ha 162 (some q)
  have e2 := (e1.X (a := r) (by exact hr) pcs).wR ha 163 (some r)
  have k1 : hk (nX (nO S a 5) q n) a 5 := hkX hq hkO_s
  have k2 : hk (nX (nO S a 5) q n) q 10 := hkX_s
  refine ⟨e2, ⟨ha, hq', hr'⟩, ⟨?_, ?_, ?_⟩, ?_, ?_, qr⟩
  · exact hkX (S := sR (sI (sI (sX (nX (nO S a 5) q n) q (va_cpy s (fun _ => 0) 0 0 n)) 160 a key) 161 a (nI pcs)) 162 a (some q)) (j := pcs) hr k1
  · exact hkX (S := sR (sI (sI (sX (nX (nO S a 5) q n) q (va_cpy s (fun _ => 0) 0 0 n)) 160 a key) 161 a (nI pcs)) 162 a (some q)) (j := pcs) hr k2
  · exact hkX_s (S := sR (sI (sI (sX (nX (nO S a 5) q n) q (va_cpy s (fun _ => 0) 0 0 n)) 160 a key) 161 a (nI pcs)) 162 a (some q)) (j := pcs)
  · unfold mkT
    rw [gR_sR, if_neg (by omega)]
    show gR (sR _ 162 a (some q)) 162 a = some q
    rw [gR_sR, if_pos ⟨rfl, rfl⟩]
  · unfold mkT
    rw [gR_sR, if_pos ⟨rfl, rfl⟩]
/-- what a made Text holds -/
theorem mkT_at {S : pS} {n pcs : Nat} {key : Int32} {s : Nat → Int32} (hq : q ∉ gL (nO S a 5)) (hr : r ∉ gL (nX (nO S a 5) q n)) : gI (mkT S a q r n pcs key s) 160 a = key ∧ gI (mkT S a q r n pcs key s) 161 a = nI pcs ∧ gN (mkT S a q r n pcs key s) q = n ∧ gN (mkT S a q r n pcs key s) r = pcs ∧ ∀ k, k < n → gX (mkT S a q r n pcs key s) q k = s k := by
  have qr : q ≠ r := fun e => hr (by rw [← e]; exact hkX_s.1)
  refine ⟨?_, ?_, ?_, ?_, fun k hk => ?_⟩
  · show gI (sI (sI _ 160 a key) 161 a (nI pcs)) 160 a = key
    rw [gI_sI, if_neg (by omega), gI_sI, if_pos ⟨rfl, rfl⟩]
  · show gI (sI (sI _ 160 a key) 161 a (nI pcs)) 161 a = nI pcs
    rw [gI_sI, if_pos ⟨rfl, rfl⟩]
  · show va_up (gN (nX (nO S a 5) q n)) r pcs q = n
    rw [va_up_ne _ _ qr]; exact va_up_self _ _ _
  · exact va_up_self _ _ _
  · show va_up (gX (sX (nX (nO S a 5) q n) q (va_cpy s (fun _ => 0) 0 0 n))) r _ q k = s k
    rw [va_up_ne _ _ qr, gX_sX, if_pos rfl, cpy_at, if_pos (by omega)]
    exact congrArg s (by omega)
end EXT
