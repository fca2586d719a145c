/-! ===== the model: a text's levels ===== -/
def cntN (o : sps) : Nat := o.countP (fun y => !(y.1 == 2))
/-- the model's ints while it reads -/
def PST (F F0 tp : Nat → Int32) (z : Nat) (s : tk) (o : sps) (b n : Nat) : Prop := TS F tp s ∧ (F 307 = nI b ∧ F 308 = nI n ∧ F 309 = nI o.length ∧ F 310 = nI z ∧ F 311 = nI (cntN o)) ∧ ∀ f, (f < 302 ∨ 311 < f) → F f = F0 f
def PFL (F F0 : Nat → Int32) (s : tk) : Prop := F 302 = nI s.1 ∧ ∀ f, (f < 302 ∨ 311 < f) → F f = F0 f
theorem PST.fl {F F0 tp : Nat → Int32} {z : Nat} {s : tk} {o : sps} {b n : Nat} (h : PST F F0 tp z s o b n) : PFL F F0 s := ⟨h.1.1.1, h.2.2⟩
theorem PST.nx {F F0 F2 tp : Nat → Int32} {z : Nat} {s s2 : tk} {o : sps} {b n : Nat} (h : PST F F0 tp z s o b n) (h1 : fo6 F F2) (h2 : TS F2 tp s2) : PST F2 F0 tp z s2 o b n := ⟨h2, ⟨(h1 _ (by decide)).trans h.2.1.1, (h1 _ (by decide)).trans h.2.1.2.1, (h1 _ (by decide)).trans h.2.1.2.2.1, (h1 _ (by decide)).trans h.2.1.2.2.2.1, (h1 _ (by decide)).trans h.2.1.2.2.2.2⟩, fun f hf => (h1 f (by omega)).trans (h.2.2 f hf)⟩
theorem TS.up {F tp : Nat → Int32} {s : tk} (h : TS F tp s) {k : Nat} (hk : k < 302 ∨ 306 < k) (v : Int32) : TS (va_up F k v) tp s := by
  unfold TS
  rw [va_up_ne _ _ (by omega), va_up_ne _ _ (by omega), va_up_ne _ _ (by omega), va_up_ne _ _ (by omega), va_up_ne _ _ (by omega)]
  exact h
theorem PST.sg {F F0 tp : Nat → Int32} {z : Nat} {s : tk} {o : sps} {b n : Nat} (h : PST F F0 tp z s o b n) (c : Int32) : PST (va_up F 309 (nI (o.length + 1))) F0 tp z s (o ++ [(2, c)]) b n := by
  refine ⟨h.1.up (by decide) _, ⟨?_, ?_, ?_, ?_, ?_⟩, fun f hf => ?_⟩
  · rw [va_up_ne _ _ (by decide)]; exact h.2.1.1
  · rw [va_up_ne _ _ (by decide)]; exact h.2.1.2.1
  · rw [va_up_self, List.length_append]; rfl
  · rw [va_up_ne _ _ (by decide)]; exact h.2.1.2.2.2.1
  · rw [va_up_ne _ _ (by decide), h.2.1.2.2.2.2]; unfold cntN; rw [List.countP_append]; rfl
  · rw [va_up_ne _ _ (by omega)]; exact h.2.2 f hf
/-- a number or a name laid -/
theorem PST.pc {F F0 tp : Nat → Int32} {z : Nat} {s : tk} {o : sps} {b n : Nat} (h : PST F F0 tp z s o b n) {w : Int32} (hw : w = 0 ∨ w = 1) (c : Int32) : PST (va_up (va_up F 309 (nI (o.length + 1))) 311 (va_up F 309 (nI (o.length + 1)) 311 + 1)) F0 tp z s (o ++ [(w, c)]) b n := by
  refine ⟨(h.1.up (by decide) _).up (by decide) _, ⟨?_, ?_, ?_, ?_, ?_⟩, fun f hf => ?_⟩
  · rw [va_up_ne _ _ (by decide), va_up_ne _ _ (by decide)]; exact h.2.1.1
  · rw [va_up_ne _ _ (by decide), va_up_ne _ _ (by decide)]; exact h.2.1.2.1
  · rw [va_up_ne _ _ (by decide), va_up_self, List.length_append]; rfl
  · rw [va_up_ne _ _ (by decide), va_up_ne _ _ (by decide)]; exact h.2.1.2.2.2.1
  · rw [va_up_self, va_up_ne _ _ (by decide), h.2.1.2.2.2.2]
    have e : cntN (o ++ [(w, c)]) = cntN o + 1 := by
      unfold cntN; rw [List.countP_append]
      rcases hw with rfl | rfl <;> rfl
    rw [e]; exact nI_1 _
  · rw [va_up_ne _ _ (by omega), va_up_ne _ _ (by omega)]; exact h.2.2 f hf
theorem PST.dp {F F0 tp : Nat → Int32} {z : Nat} {s : tk} {o : sps} {b n : Nat} (h : PST F F0 tp z s o b n) {v : Int32} (b2 : Nat) (hv : v = nI b2) : PST (va_up F 307 v) F0 tp z s o b2 n := by
  refine ⟨h.1.up (by decide) _, ⟨by rw [va_up_self]; exact hv, ?_, ?_, ?_, ?_⟩, fun f hf => ?_⟩
  · rw [va_up_ne _ _ (by decide)]; exact h.2.1.2.1
  · rw [va_up_ne _ _ (by decide)]; exact h.2.1.2.2.1
  · rw [va_up_ne _ _ (by decide)]; exact h.2.1.2.2.2.1
  · rw [va_up_ne _ _ (by decide)]; exact h.2.1.2.2.2.2
  · rw [va_up_ne _ _ (by omega)]; exact h.2.2 f hf
theorem PST.tn {F F0 tp : Nat → Int32} {z : Nat} {s : tk} {o : sps} {b n : Nat} (h : PST F F0 tp z s o b n) {v : Int32} (n2 : Nat) (hv : v = nI n2) : PST (va_up F 308 v) F0 tp z s o b n2 := by
  refine ⟨h.1.up (by decide) _, ⟨?_, by rw [va_up_self]; exact hv, ?_, ?_, ?_⟩, fun f hf => ?_⟩
  · rw [va_up_ne _ _ (by decide)]; exact h.2.1.1
  · rw [va_up_ne _ _ (by decide)]; exact h.2.1.2.2.1
  · rw [va_up_ne _ _ (by decide)]; exact h.2.1.2.2.2.1
  · rw [va_up_ne _ _ (by decide)]; exact h.2.1.2.2.2.2
  · rw [va_up_ne _ _ (by omega)]; exact h.2.2 f hf
section RDQ
variable {tp : Nat → Int32} {L : Nat} {key : Int32} {f b n : Nat} {s : tk} {o : sps}
theorem rdP_lv {md : Nat} (h : md < 5) : rdP tp L key (f + 1) md b n s o = if (rdP tp L key f (md + 1) b n s o).1 = true then rdP tp L key f (md + 6) b n (rdP tp L key f (md + 1) b n s o).2.1 (rdP tp L key f (md + 1) b n s o).2.2 else rdP tp L key f (md + 1) b n s o := by
  show (if md < 5 then _ else _) = _
  rw [if_pos h]
theorem rdP_sg {md : Nat} (h : 5 < md) (h1 : s.2.2 = 3) (h2 : lvOf (tp s.1) = md - 6) : rdP tp L key (f + 1) md b n s o = if (rdP tp L key f (md - 5) b n (nxs tp L s) o).1 = true then (if md = 8 then (true, (rdP tp L key f (md - 5) b n (nxs tp L s) o).2.1, (rdP tp L key f (md - 5) b n (nxs tp L s) o).2.2 ++ [(2, tp s.1)]) else rdP tp L key f md b n (rdP tp L key f (md - 5) b n (nxs tp L s) o).2.1 ((rdP tp L key f (md - 5) b n (nxs tp L s) o).2.2 ++ [(2, tp s.1)])) else rdP tp L key f (md - 5) b n (nxs tp L s) o := by
  show (if md < 5 then _ else _) = _
  rw [if_neg (by omega), if_neg (by omega), if_pos ⟨h1, h2⟩]
theorem rdP_ns {md : Nat} (h : 5 < md) (h1 : ¬ (s.2.2 = 3 ∧ lvOf (tp s.1) = md - 6)) : rdP tp L key (f + 1) md b n s o = (true, s, o) := by
  show (if md < 5 then _ else _) = _
  rw [if_neg (by omega), if_neg (by omega), if_neg h1]
end RDQ
theorem lv0 {c : Int32} : lvOf c = 0 ↔ c = 124 := by
  unfold lvOf
  constructor
  · intro h; split at h
    · assumption
    · repeat (first | omega | split at h)
  · intro h; rw [if_pos h]
theorem lv1 {c : Int32} : lvOf c = 1 ↔ c = 38 := by
  unfold lvOf
  constructor
  · intro h
    repeat (first | omega | assumption | split at h)
  · intro h; subst h; rfl
theorem lv2 {c : Int32} : lvOf c = 2 ↔ (c = 60 ∨ c = 61 ∨ c = 62) := by
  unfold lvOf
  constructor
  · intro h
    repeat (first | omega | assumption | split at h)
  · rintro (h | h | h) <;> subst h <;> rfl
theorem lv3 {c : Int32} : lvOf c = 3 ↔ (c = 43 ∨ c = 45) := by
  unfold lvOf
  constructor
  · intro h
    repeat (first | omega | assumption | split at h)
  · rintro (h | h) <;> subst h <;> rfl
theorem lv4 {c : Int32} : lvOf c = 4 ↔ (c = 42 ∨ c = 47) := by
  unfold lvOf
  constructor
  · intro h
    repeat (first | omega | assumption | split at h)
  · rintro (h | h) <;> subst h <;> rfl
/-- what each of the reading methods does, at so much fuel -/
def CT (x : pX) (S : pS) (m : Nat) (as : Nat → Nat) (A0 : Nat → Nat → Int32) (F0 tp : Nat → Int32) (L : Nat) (key : Int32) (z : Nat) (M : pM) (md f : Nat) : Prop := ∀ (d b n : Nat) (s : tk) (o : sps) (F : Nat → Int32) (Q : Int32 → pS → Prop), tko L s → o.length ≤ s.1 → b ≤ 8 → n ≤ 8 → fuN md L s ≤ f → PST F F0 tp z s o b n →
  (∀ F2, (rdP tp L key f md b n s o).1 = true → PST F2 F0 tp z (rdP tp L key f md b n s o).2.1 (rdP tp L key f md b n s o).2.2 b n → Q 1 (mP S m as (uA A0 (stl (A0 288) z (rdP tp L key f md b n s o).2.2)) F2)) →
  (∀ F2, (rdP tp L key f md b n s o).1 = false → PFL F2 F0 (rdP tp L key f md b n s o).2.1 → Q 0 (mP S m as (uA A0 (stl (A0 288) z (rdP tp L key f md b n s o).2.2)) F2)) →
  PI x (d + f + 4) M [.ref m, .int key] (mP S m as (uA A0 (stl (A0 288) z o)) F) Q
def CL (x : pX) (S : pS) (m : Nat) (as : Nat → Nat) (A0 : Nat → Nat → Int32) (F0 tp : Nat → Int32) (L : Nat) (key : Int32) (z : Nat) (M : pM) (md f : Nat) : Prop := ∀ (d b n : Nat) (s : tk) (o : sps) (F : Nat → Int32) (Q : Int32 → pS → Prop), tko L s → o.length ≤ s.1 → b ≤ 8 → n ≤ 8 → fuN md L s ≤ f → PST F F0 tp z s o b n →
  (∀ F2, (rdP tp L key f md b n s o).1 = true → PST F2 F0 tp z (rdP tp L key f md b n s o).2.1 (rdP tp L key f md b n s o).2.2 b n → Q 1 (mP S m as (uA A0 (stl (A0 288) z (rdP tp L key f md b n s o).2.2)) F2)) →
  (∀ F2, (rdP tp L key f md b n s o).1 = false → PFL F2 F0 (rdP tp L key f md b n s o).2.1 → Q 0 (mP S m as (uA A0 (stl (A0 288) z (rdP tp L key f md b n s o).2.2)) F2)) →
  V x (d + f + 4) M (qi Q) (0, 0) 10 [(0, .ref m), (1, .int key)] [] (mP S m as (uA A0 (stl (A0 288) z o)) F)
set_option maxRecDepth 100000 in
set_option maxHeartbeats 4000000 in
theorem m_either_E {x : pX} {S : pS} {m : Nat} {as : Nat → Nat} {A0 : Nat → Nat → Int32} {F0 tp : Nat → Int32} {L : Nat} {key : Int32} {z f : Nat} (hM : MF S m as) (hT : A0 300 = tp) (hL : F0 301 = nI L) (h96 : L ≤ 96) (hz : z ≤ 2954) (ih : CT x S m as A0 F0 tp L key z M_X9_both 1 f) (il : CL x S m as A0 F0 tp L key z M_X9_either 6 f) : CT x S m as A0 F0 tp L key z M_X9_either 0 (f + 1) := by
  intro d b n s o F Q ht ho hb hn hf hP h1 h0
  have g1 := ht.1
  have g2 := ht.2.1
  have g3 := ht.2.2.1
  have g4 := ht.2.2.2
  have nk := nxs_ok tp ht
  unfold fuN at hf
  rw [if_pos (by decide)] at hf
  rw [rdP_lv (by decide)] at h1 h0
  refine PM_of (by decide +kernel) (Nat.le_of_ble_eq_true rfl) ?_
  show V x (d + f + 4 + 1) M_X9_either (qi Q) (0, 0) 0 [(0, .ref m), (1, .int key)] [] (mP S m as (uA A0 (stl (A0 288) z o)) F)
  refine V_aln (pc := 0) dX9_either_0 rfl rfl ?_
  refine V_iln (pc := 1) dX9_either_1 rfl rfl ?_
  refine V_cVi0 (pc := 2) (jc_X9_242 dX9_either_2 rfl) rfl rfl (Nat.le_of_ble_eq_true rfl) (mF_k hM) ?_
  refine ih d b n s o F _ ht ho hb hn (by unfold fuN; rw [if_pos (by decide)]; omega) hP (fun F2 r1 hP2 => ?_) (fun F2 r0 hP2 => ?_)
  · rw [if_pos r1] at h1 h0
    have rk := rdP_ok tp L key f 1 b n s o ht
    refine V_ne (pc := 5) (t := 10) dX9_either_5 (by decide) (fun _ => ?_) (fun h => absurd h (by decide))
    have e1 : d + f + 4 + 1 = d + 1 + f + 4 := by omega
    rw [e1]
    exact il (d + 1) b n _ _ F2 Q rk.1 (by omega) hb hn (by unfold fuN; rw [if_neg (by decide)]; omega) hP2 h1 h0
  · rw [if_neg (by rw [r0]; decide)] at h0
    refine V_ne (pc := 5) (t := 10) dX9_either_5 (by decide) (fun h => absurd h (by decide)) (fun _ => ?_)
    refine V_iconst (pc := 8) (v := 0) dX9_either_8 (by decide) ?_
    refine V_iret (pc := 9) dX9_either_9 rfl rfl ?_
    exact h0 F2 r0 hP2
set_option maxRecDepth 100000 in
set_option maxHeartbeats 4000000 in
theorem m_both_E {x : pX} {S : pS} {m : Nat} {as : Nat → Nat} {A0 : Nat → Nat → Int32} {F0 tp : Nat → Int32} {L : Nat} {key : Int32} {z f : Nat} (hM : MF S m as) (hT : A0 300 = tp) (hL : F0 301 = nI L) (h96 : L ≤ 96) (hz : z ≤ 2954) (ih : CT x S m as A0 F0 tp L key z M_X9_test 2 f) (il : CL x S m as A0 F0 tp L key z M_X9_both 7 f) : CT x S m as A0 F0 tp L key z M_X9_both 1 (f + 1) := by
  intro d b n s o F Q ht ho hb hn hf hP h1 h0
  have g1 := ht.1
  have g2 := ht.2.1
  have g3 := ht.2.2.1
  have g4 := ht.2.2.2
  have nk := nxs_ok tp ht
  unfold fuN at hf
  rw [if_pos (by decide)] at hf
  rw [rdP_lv (by decide)] at h1 h0
  refine PM_of (by decide +kernel) (Nat.le_of_ble_eq_true rfl) ?_
  show V x (d + f + 4 + 1) M_X9_both (qi Q) (0, 0) 0 [(0, .ref m), (1, .int key)] [] (mP S m as (uA A0 (stl (A0 288) z o)) F)
  refine V_aln (pc := 0) dX9_both_0 rfl rfl ?_
  refine V_iln (pc := 1) dX9_both_1 rfl rfl ?_
  refine V_cVi0 (pc := 2) (jc_X9_254 dX9_both_2 rfl) rfl rfl (Nat.le_of_ble_eq_true rfl) (mF_k hM) ?_
  refine ih d b n s o F _ ht ho hb hn (by unfold fuN; rw [if_pos (by decide)]; omega) hP (fun F2 r1 hP2 => ?_) (fun F2 r0 hP2 => ?_)
  · rw [if_pos r1] at h1 h0
    have rk := rdP_ok tp L key f 2 b n s o ht
    refine V_ne (pc := 5) (t := 10) dX9_both_5 (by decide) (fun _ => ?_) (fun h => absurd h (by decide))
    have e1 : d + f + 4 + 1 = d + 1 + f + 4 := by omega
    rw [e1]
    exact il (d + 1) b n _ _ F2 Q rk.1 (by omega) hb hn (by unfold fuN; rw [if_neg (by decide)]; omega) hP2 h1 h0
  · rw [if_neg (by rw [r0]; decide)] at h0
    refine V_ne (pc := 5) (t := 10) dX9_both_5 (by decide) (fun h => absurd h (by decide)) (fun _ => ?_)
    refine V_iconst (pc := 8) (v := 0) dX9_both_8 (by decide) ?_
    refine V_iret (pc := 9) dX9_both_9 rfl rfl ?_
    exact h0 F2 r0 hP2
set_option maxRecDepth 100000 in
set_option maxHeartbeats 4000000 in
theorem m_test_E {x : pX} {S : pS} {m : Nat} {as : Nat → Nat} {A0 : Nat → Nat → Int32} {F0 tp : Nat → Int32} {L : Nat} {key : Int32} {z f : Nat} (hM : MF S m as) (hT : A0 300 = tp) (hL : F0 301 = nI L) (h96 : L ≤ 96) (hz : z ≤ 2954) (ih : CT x S m as A0 F0 tp L key z M_X9_sum 3 f) (il : CL x S m as A0 F0 tp L key z M_X9_test 8 f) : CT x S m as A0 F0 tp L key z M_X9_test 2 (f + 1) := by
  intro d b n s o F Q ht ho hb hn hf hP h1 h0
  have g1 := ht.1
  have g2 := ht.2.1
  have g3 := ht.2.2.1
  have g4 := ht.2.2.2
  have nk := nxs_ok tp ht
  unfold fuN at hf
  rw [if_pos (by decide)] at hf
  rw [rdP_lv (by decide)] at h1 h0
  refine PM_of (by decide +kernel) (Nat.le_of_ble_eq_true rfl) ?_
  show V x (d + f + 4 + 1) M_X9_test (qi Q) (0, 0) 0 [(0, .ref m), (1, .int key)] [] (mP S m as (uA A0 (stl (A0 288) z o)) F)
  refine V_aln (pc := 0) dX9_test_0 rfl rfl ?_
  refine V_iln (pc := 1) dX9_test_1 rfl rfl ?_
  refine V_cVi0 (pc := 2) (jc_X9_257 dX9_test_2 rfl) rfl rfl (Nat.le_of_ble_eq_true rfl) (mF_k hM) ?_
  refine ih d b n s o F _ ht ho hb hn (by unfold fuN; rw [if_pos (by decide)]; omega) hP (fun F2 r1 hP2 => ?_) (fun F2 r0 hP2 => ?_)
  · rw [if_pos r1] at h1 h0
    have rk := rdP_ok tp L key f 3 b n s o ht
    refine V_ne (pc := 5) (t := 10) dX9_test_5 (by decide) (fun _ => ?_) (fun h => absurd h (by decide))
    have e1 : d + f + 4 + 1 = d + 1 + f + 4 := by omega
    rw [e1]
    exact il (d + 1) b n _ _ F2 Q rk.1 (by omega) hb hn (by unfold fuN; rw [if_neg (by decide)]; omega) hP2 h1 h0
  · rw [if_neg (by rw [r0]; decide)] at h0
    refine V_ne (pc := 5) (t := 10) dX9_test_5 (by decide) (fun h => absurd h (by decide)) (fun _ => ?_)
    refine V_iconst (pc := 8) (v := 0) dX9_test_8 (by decide) ?_
    refine V_iret (pc := 9) dX9_test_9 rfl rfl ?_
    exact h0 F2 r0 hP2
set_option maxRecDepth 100000 in
set_option maxHeartbeats 4000000 in
theorem m_sum_E {x : pX} {S : pS} {m : Nat} {as : Nat → Nat} {A0 : Nat → Nat → Int32} {F0 tp : Nat → Int32} {L : Nat} {key : Int32} {z f : Nat} (hM : MF S m as) (hT : A0 300 = tp) (hL : F0 301 = nI L) (h96 : L ≤ 96) (hz : z ≤ 2954) (ih : CT x S m as A0 F0 tp L key z M_X9_term 4 f) (il : CL x S m as A0 F0 tp L key z M_X9_sum 9 f) : CT x S m as A0 F0 tp L key z M_X9_sum 3 (f + 1) := by
  intro d b n s o F Q ht ho hb hn hf hP h1 h0
  have g1 := ht.1
  have g2 := ht.2.1
  have g3 := ht.2.2.1
  have g4 := ht.2.2.2
  have nk := nxs_ok tp ht
  unfold fuN at hf
  rw [if_pos (by decide)] at hf
  rw [rdP_lv (by decide)] at h1 h0
  refine PM_of (by decide +kernel) (Nat.le_of_ble_eq_true rfl) ?_
  show V x (d + f + 4 + 1) M_X9_sum (qi Q) (0, 0) 0 [(0, .ref m), (1, .int key)] [] (mP S m as (uA A0 (stl (A0 288) z o)) F)
  refine V_aln (pc := 0) dX9_sum_0 rfl rfl ?_
  refine V_iln (pc := 1) dX9_sum_1 rfl rfl ?_
  refine V_cVi0 (pc := 2) (jc_X9_260 dX9_sum_2 rfl) rfl rfl (Nat.le_of_ble_eq_true rfl) (mF_k hM) ?_
  refine ih d b n s o F _ ht ho hb hn (by unfold fuN; rw [if_pos (by decide)]; omega) hP (fun F2 r1 hP2 => ?_) (fun F2 r0 hP2 => ?_)
  · rw [if_pos r1] at h1 h0
    have rk := rdP_ok tp L key f 4 b n s o ht
    refine V_ne (pc := 5) (t := 10) dX9_sum_5 (by decide) (fun _ => ?_) (fun h => absurd h (by decide))
    have e1 : d + f + 4 + 1 = d + 1 + f + 4 := by omega
    rw [e1]
    exact il (d + 1) b n _ _ F2 Q rk.1 (by omega) hb hn (by unfold fuN; rw [if_neg (by decide)]; omega) hP2 h1 h0
  · rw [if_neg (by rw [r0]; decide)] at h0
    refine V_ne (pc := 5) (t := 10) dX9_sum_5 (by decide) (fun h => absurd h (by decide)) (fun _ => ?_)
    refine V_iconst (pc := 8) (v := 0) dX9_sum_8 (by decide) ?_
    refine V_iret (pc := 9) dX9_sum_9 rfl rfl ?_
    exact h0 F2 r0 hP2
set_option maxRecDepth 100000 in
set_option maxHeartbeats 4000000 in
theorem m_term_E {x : pX} {S : pS} {m : Nat} {as : Nat → Nat} {A0 : Nat → Nat → Int32} {F0 tp : Nat → Int32} {L : Nat} {key : Int32} {z f : Nat} (hM : MF S m as) (hT : A0 300 = tp) (hL : F0 301 = nI L) (h96 : L ≤ 96) (hz : z ≤ 2954) (ih : CT x S m as A0 F0 tp L key z M_X9_part0 5 f) (il : CL x S m as A0 F0 tp L key z M_X9_term 10 f) : CT x S m as A0 F0 tp L key z M_X9_term 4 (f + 1) := by
  intro d b n s o F Q ht ho hb hn hf hP h1 h0
  have g1 := ht.1
  have g2 := ht.2.1
  have g3 := ht.2.2.1
  have g4 := ht.2.2.2
  have nk := nxs_ok tp ht
  unfold fuN at hf
  rw [if_pos (by decide)] at hf
  rw [rdP_lv (by decide)] at h1 h0
  refine PM_of (by decide +kernel) (Nat.le_of_ble_eq_true rfl) ?_
  show V x (d + f + 4 + 1) M_X9_term (qi Q) (0, 0) 0 [(0, .ref m), (1, .int key)] [] (mP S m as (uA A0 (stl (A0 288) z o)) F)
  refine V_aln (pc := 0) dX9_term_0 rfl rfl ?_
  refine V_iln (pc := 1) dX9_term_1 rfl rfl ?_
  refine V_cVi0 (pc := 2) (jc_X9_263 dX9_term_2 rfl) rfl rfl (Nat.le_of_ble_eq_true rfl) (mF_k hM) ?_
  refine ih d b n s o F _ ht ho hb hn (by unfold fuN; rw [if_pos (by decide)]; omega) hP (fun F2 r1 hP2 => ?_) (fun F2 r0 hP2 => ?_)
  · rw [if_pos r1] at h1 h0
    have rk := rdP_ok tp L key f 5 b n s o ht
    refine V_ne (pc := 5) (t := 10) dX9_term_5 (by decide) (fun _ => ?_) (fun h => absurd h (by decide))
    have e1 : d + f + 4 + 1 = d + 1 + f + 4 := by omega
    rw [e1]
    exact il (d + 1) b n _ _ F2 Q rk.1 (by omega) hb hn (by unfold fuN; rw [if_neg (by decide)]; omega) hP2 h1 h0
  · rw [if_neg (by rw [r0]; decide)] at h0
    refine V_ne (pc := 5) (t := 10) dX9_term_5 (by decide) (fun h => absurd h (by decide)) (fun _ => ?_)
    refine V_iconst (pc := 8) (v := 0) dX9_term_8 (by decide) ?_
    refine V_iret (pc := 9) dX9_term_9 rfl rfl ?_
    exact h0 F2 r0 hP2
set_option maxRecDepth 100000 in
set_option maxHeartbeats 4000000 in
theorem m_either_L {x : pX} {S : pS} {m : Nat} {as : Nat → Nat} {A0 : Nat → Nat → Int32} {F0 tp : Nat → Int32} {L : Nat} {key : Int32} {z f : Nat} (hM : MF S m as) (hT : A0 300 = tp) (hL : F0 301 = nI L) (h96 : L ≤ 96) (hz : z ≤ 2954) (ih : CT x S m as A0 F0 tp L key z M_X9_both 1 f) (il : CL x S m as A0 F0 tp L key z M_X9_either 6 f) : CL x S m as A0 F0 tp L key z M_X9_either 6 (f + 1) := by
  intro d b n s o F Q ht ho hb hn hf hP h1 h0
  have g1 := ht.1
  have g2 := ht.2.1
  have g3 := ht.2.2.1
  have g4 := ht.2.2.2
  have nk := nxs_ok tp ht
  unfold fuN at hf
  rw [if_neg (by decide)] at hf
  have e0 : d + (f + 1) + 4 = d + f + 4 + 1 := by omega
  rw [e0]
  refine V_aln (pc := 10) dX9_either_10 rfl rfl ?_
  refine V_bipush (pc := 11) (v := 124) dX9_either_11 (by decide) ?_
  refine V_cVi0 (pc := 13) (jc_X9_245 dX9_either_13 rfl) rfl rfl (Nat.le_of_ble_eq_true rfl) (mF_k hM) ?_
  refine m_isSign (s := s) (tp := tp) hM hP.1 g4 (fun q3 e => ?_) (fun q0_0 => ?_)
  · have lq : lvOf (tp s.1) = 0 := lv0.mpr (e)
    rw [rdP_sg (by decide) q3 lq] at h1 h0
    refine V_eq (pc := 16) (t := 43) dX9_either_16 (by decide) (fun h => absurd h (by decide)) (fun _ => ?_)
    refine V_aln (pc := 19) dX9_either_19 rfl rfl ?_
    refine V_cVv0 (pc := 20) (jc_X9_248 dX9_either_20 rfl) rfl rfl (Nat.le_of_ble_eq_true rfl) (mF_k hM) ?_
    refine m_nextToken hM (L := L) (tp := tp) (by rw [uA_ne _ _ (by decide)]; exact hT) ((hP.2.2 301 (by decide)).trans hL) h96 g1 hP.1.1.2.1 hP.1.1.2.2 g4 (by omega) (fun Fn nf nt => ?_)
    refine V_aln (pc := 23) dX9_either_23 rfl rfl ?_
    refine V_iln (pc := 24) dX9_either_24 rfl rfl ?_
    refine V_cVi0 (pc := 25) (jc_X9_242 dX9_either_25 rfl) rfl rfl (Nat.le_of_ble_eq_true rfl) (mF_k hM) ?_
    refine ih d b n (nxs tp L s) o Fn _ nk.1 (by omega) hb hn (by unfold fuN; rw [if_pos (by decide)]; omega) (hP.nx nf nt) (fun F2 r1 hP2 => ?_) (fun F2 r0 hP2 => ?_)
    · rw [if_pos r1] at h1 h0
      have rk := rdP_ok tp L key f 1 b n (nxs tp L s) o nk.1
      rw [if_neg (by decide)] at h1 h0
      refine V_ne (pc := 28) (t := 33) dX9_either_28 (by decide) (fun _ => ?_) (fun h => absurd h (by decide))
      refine V_aln (pc := 33) dX9_either_33 rfl rfl ?_
      refine V_iconst (pc := 34) (v := 2) dX9_either_34 (by decide) ?_
      refine V_bipush (pc := 35) (v := 124) dX9_either_35 (by decide) ?_
      refine V_cVv0 (pc := 37) (jc_X9_251 dX9_either_37 rfl) rfl rfl (Nat.le_of_ble_eq_true rfl) (mF_k hM) ?_
      refine m_step (A0 := A0) (z := z) (o := (rdP tp L key f 1 b n (nxs tp L s) o).2.2) hM rfl hP2.2.1.2.2.2.1 hP2.2.1.2.2.1 (by have := rk.1.1; have := rk.1.2.1; omega) ?_
      rw [e] at h1 h0
      refine V_goto (pc := 40) (t := 10) dX9_either_40 (by decide) ?_
      have e1 : d + f + 4 + 1 = d + 1 + f + 4 := by omega
      rw [e1]
      refine il (d + 1) b n _ _ _ Q rk.1 ?_ hb hn ?_ (hP2.sg 124) h1 h0
      · rw [List.length_append]; show _ + 1 ≤ _; omega
      · unfold fuN; rw [if_neg (by decide)]; omega
    · rw [if_neg (by rw [r0]; decide)] at h0
      refine V_ne (pc := 28) (t := 33) dX9_either_28 (by decide) (fun h => absurd h (by decide)) (fun _ => ?_)
      refine V_iconst (pc := 31) (v := 0) dX9_either_31 (by decide) ?_
      refine V_iret (pc := 32) dX9_either_32 rfl rfl ?_
      exact h0 F2 r0 hP2
  · have nq : ¬ (s.2.2 = 3 ∧ lvOf (tp s.1) = 0) := fun q => by
      exact q0_0 ⟨q.1, lv0.mp q.2⟩
    rw [rdP_ns (by decide) nq] at h1
    refine V_eq (pc := 16) (t := 43) dX9_either_16 (by decide) (fun _ => ?_) (fun h => absurd h (by decide))
    refine V_iconst (pc := 43) (v := 1) dX9_either_43 (by decide) ?_
    refine V_iret (pc := 44) dX9_either_44 rfl rfl ?_
    exact h1 F rfl hP
set_option maxRecDepth 100000 in
set_option maxHeartbeats 4000000 in
theorem m_both_L {x : pX} {S : pS} {m : Nat} {as : Nat → Nat} {A0 : Nat → Nat → Int32} {F0 tp : Nat → Int32} {L : Nat} {key : Int32} {z f : Nat} (hM : MF S m as) (hT : A0 300 = tp) (hL : F0 301 = nI L) (h96 : L ≤ 96) (hz : z ≤ 2954) (ih : CT x S m as A0 F0 tp L key z M_X9_test 2 f) (il : CL x S m as A0 F0 tp L key z M_X9_both 7 f) : CL x S m as A0 F0 tp L key z M_X9_both 7 (f + 1) := by
  intro d b n s o F Q ht ho hb hn hf hP h1 h0
  have g1 := ht.1
  have g2 := ht.2.1
  have g3 := ht.2.2.1
  have g4 := ht.2.2.2
  have nk := nxs_ok tp ht
  unfold fuN at hf
  rw [if_neg (by decide)] at hf
  have e0 : d + (f + 1) + 4 = d + f + 4 + 1 := by omega
  rw [e0]
  refine V_aln (pc := 10) dX9_both_10 rfl rfl ?_
  refine V_bipush (pc := 11) (v := 38) dX9_both_11 (by decide) ?_
  refine V_cVi0 (pc := 13) (jc_X9_245 dX9_both_13 rfl) rfl rfl (Nat.le_of_ble_eq_true rfl) (mF_k hM) ?_
  refine m_isSign (s := s) (tp := tp) hM hP.1 g4 (fun q3 e => ?_) (fun q0_0 => ?_)
  · have lq : lvOf (tp s.1) = 1 := lv1.mpr (e)
    rw [rdP_sg (by decide) q3 lq] at h1 h0
    refine V_eq (pc := 16) (t := 43) dX9_both_16 (by decide) (fun h => absurd h (by decide)) (fun _ => ?_)
    refine V_aln (pc := 19) dX9_both_19 rfl rfl ?_
    refine V_cVv0 (pc := 20) (jc_X9_248 dX9_both_20 rfl) rfl rfl (Nat.le_of_ble_eq_true rfl) (mF_k hM) ?_
    refine m_nextToken hM (L := L) (tp := tp) (by rw [uA_ne _ _ (by decide)]; exact hT) ((hP.2.2 301 (by decide)).trans hL) h96 g1 hP.1.1.2.1 hP.1.1.2.2 g4 (by omega) (fun Fn nf nt => ?_)
    refine V_aln (pc := 23) dX9_both_23 rfl rfl ?_
    refine V_iln (pc := 24) dX9_both_24 rfl rfl ?_
    refine V_cVi0 (pc := 25) (jc_X9_254 dX9_both_25 rfl) rfl rfl (Nat.le_of_ble_eq_true rfl) (mF_k hM) ?_
    refine ih d b n (nxs tp L s) o Fn _ nk.1 (by omega) hb hn (by unfold fuN; rw [if_pos (by decide)]; omega) (hP.nx nf nt) (fun F2 r1 hP2 => ?_) (fun F2 r0 hP2 => ?_)
    · rw [if_pos r1] at h1 h0
      have rk := rdP_ok tp L key f 2 b n (nxs tp L s) o nk.1
      rw [if_neg (by decide)] at h1 h0
      refine V_ne (pc := 28) (t := 33) dX9_both_28 (by decide) (fun _ => ?_) (fun h => absurd h (by decide))
      refine V_aln (pc := 33) dX9_both_33 rfl rfl ?_
      refine V_iconst (pc := 34) (v := 2) dX9_both_34 (by decide) ?_
      refine V_bipush (pc := 35) (v := 38) dX9_both_35 (by decide) ?_
      refine V_cVv0 (pc := 37) (jc_X9_251 dX9_both_37 rfl) rfl rfl (Nat.le_of_ble_eq_true rfl) (mF_k hM) ?_
      refine m_step (A0 := A0) (z := z) (o := (rdP tp L key f 2 b n (nxs tp L s) o).2.2) hM rfl hP2.2.1.2.2.2.1 hP2.2.1.2.2.1 (by have := rk.1.1; have := rk.1.2.1; omega) ?_
      rw [e] at h1 h0
      refine V_goto (pc := 40) (t := 10) dX9_both_40 (by decide) ?_
      have e1 : d + f + 4 + 1 = d + 1 + f + 4 := by omega
      rw [e1]
      refine il (d + 1) b n _ _ _ Q rk.1 ?_ hb hn ?_ (hP2.sg 38) h1 h0
      · rw [List.length_append]; show _ + 1 ≤ _; omega
      · unfold fuN; rw [if_neg (by decide)]; omega
    · rw [if_neg (by rw [r0]; decide)] at h0
      refine V_ne (pc := 28) (t := 33) dX9_both_28 (by decide) (fun h => absurd h (by decide)) (fun _ => ?_)
      refine V_iconst (pc := 31) (v := 0) dX9_both_31 (by decide) ?_
      refine V_iret (pc := 32) dX9_both_32 rfl rfl ?_
      exact h0 F2 r0 hP2
  · have nq : ¬ (s.2.2 = 3 ∧ lvOf (tp s.1) = 1) := fun q => by
      exact q0_0 ⟨q.1, lv1.mp q.2⟩
    rw [rdP_ns (by decide) nq] at h1
    refine V_eq (pc := 16) (t := 43) dX9_both_16 (by decide) (fun _ => ?_) (fun h => absurd h (by decide))
    refine V_iconst (pc := 43) (v := 1) dX9_both_43 (by decide) ?_
    refine V_iret (pc := 44) dX9_both_44 rfl rfl ?_
    exact h1 F rfl hP
set_option maxRecDepth 100000 in
set_option maxHeartbeats 4000000 in
theorem m_test_L {x : pX} {S : pS} {m : Nat} {as : Nat → Nat} {A0 : Nat → Nat → Int32} {F0 tp : Nat → Int32} {L : Nat} {key : Int32} {z f : Nat} (hM : MF S m as) (hT : A0 300 = tp) (hL : F0 301 = nI L) (h96 : L ≤ 96) (hz : z ≤ 2954) (ih : CT x S m as A0 F0 tp L key z M_X9_sum 3 f) : CL x S m as A0 F0 tp L key z M_X9_test 8 (f + 1) := by
  intro d b n s o F Q ht ho hb hn hf hP h1 h0
  have g1 := ht.1
  have g2 := ht.2.1
  have g3 := ht.2.2.1
  have g4 := ht.2.2.2
  have nk := nxs_ok tp ht
  unfold fuN at hf
  rw [if_neg (by decide)] at hf
  have e0 : d + (f + 1) + 4 = d + f + 4 + 1 := by omega
  rw [e0]
  refine V_aln (pc := 10) dX9_test_10 rfl rfl ?_
  refine V_bipush (pc := 11) (v := 60) dX9_test_11 (by decide) ?_
  refine V_cVi0 (pc := 13) (jc_X9_245 dX9_test_13 rfl) rfl rfl (Nat.le_of_ble_eq_true rfl) (mF_k hM) ?_
  refine m_isSign (s := s) (tp := tp) hM hP.1 g4 (fun q3 e => ?_) (fun q0_0 => ?_)
  · have lq : lvOf (tp s.1) = 2 := lv2.mpr (Or.inl e)
    rw [rdP_sg (by decide) q3 lq] at h1 h0
    refine V_ne (pc := 16) (t := 37) dX9_test_16 (by decide) (fun _ => ?_) (fun h => absurd h (by decide))
    refine V_aln (pc := 37) dX9_test_37 rfl rfl ?_
    refine M_gi (pc := 38) hM 18 306 dX9_test_38 (FL_X9_223 rfl) rfl rfl ?_
    refine V_isn (pc := 41) (fun y => [(0, .ref m), (1, .int key), (2, .int y)]) dX9_test_41 rfl (by decide) (fun _ => rfl) (fun y41 ey41 => ?_)
    obtain rfl : y41 = tp s.1 := by rw [ey41]; exact hP.1.2.2.2 q3
    refine V_aln (pc := 42) dX9_test_42 rfl rfl ?_
    refine V_cVv0 (pc := 43) (jc_X9_248 dX9_test_43 rfl) rfl rfl (Nat.le_of_ble_eq_true rfl) (mF_k hM) ?_
    refine m_nextToken hM (L := L) (tp := tp) (by rw [uA_ne _ _ (by decide)]; exact hT) ((hP.2.2 301 (by decide)).trans hL) h96 g1 hP.1.1.2.1 hP.1.1.2.2 g4 (by omega) (fun Fn nf nt => ?_)
    refine V_aln (pc := 46) dX9_test_46 rfl rfl ?_
    refine V_iln (pc := 47) dX9_test_47 rfl rfl ?_
    refine V_cVi0 (pc := 48) (jc_X9_257 dX9_test_48 rfl) rfl rfl (Nat.le_of_ble_eq_true rfl) (mF_k hM) ?_
    refine ih d b n (nxs tp L s) o Fn _ nk.1 (by omega) hb hn (by unfold fuN; rw [if_pos (by decide)]; omega) (hP.nx nf nt) (fun F2 r1 hP2 => ?_) (fun F2 r0 hP2 => ?_)
    · rw [if_pos r1] at h1 h0
      have rk := rdP_ok tp L key f 3 b n (nxs tp L s) o nk.1
      rw [if_pos rfl] at h1
      refine V_ne (pc := 51) (t := 56) dX9_test_51 (by decide) (fun _ => ?_) (fun h => absurd h (by decide))
      refine V_aln (pc := 56) dX9_test_56 rfl rfl ?_
      refine V_iconst (pc := 57) (v := 2) dX9_test_57 (by decide) ?_
      refine V_iln (pc := 58) dX9_test_58 rfl rfl ?_
      refine V_cVv0 (pc := 59) (jc_X9_251 dX9_test_59 rfl) rfl rfl (Nat.le_of_ble_eq_true rfl) (mF_k hM) ?_
      refine m_step (A0 := A0) (z := z) (o := (rdP tp L key f 3 b n (nxs tp L s) o).2.2) hM rfl hP2.2.1.2.2.2.1 hP2.2.1.2.2.1 (by have := rk.1.1; have := rk.1.2.1; omega) ?_
      refine V_iconst (pc := 62) (v := 1) dX9_test_62 (by decide) ?_
      refine V_iret (pc := 63) dX9_test_63 rfl rfl ?_
      first | exact h1 F rfl hP | exact h1 _ rfl (hP2.sg (tp s.1))
    · rw [if_neg (by rw [r0]; decide)] at h0
      refine V_ne (pc := 51) (t := 56) dX9_test_51 (by decide) (fun h => absurd h (by decide)) (fun _ => ?_)
      refine V_iconst (pc := 54) (v := 0) dX9_test_54 (by decide) ?_
      refine V_iret (pc := 55) dX9_test_55 rfl rfl ?_
      exact h0 F2 r0 hP2
  · refine V_ne (pc := 16) (t := 37) dX9_test_16 (by decide) (fun h => absurd h (by decide)) (fun _ => ?_)
    refine V_aln (pc := 19) dX9_test_19 rfl rfl ?_
    refine V_bipush (pc := 20) (v := 61) dX9_test_20 (by decide) ?_
    refine V_cVi0 (pc := 22) (jc_X9_245 dX9_test_22 rfl) rfl rfl (Nat.le_of_ble_eq_true rfl) (mF_k hM) ?_
    refine m_isSign (s := s) (tp := tp) hM hP.1 g4 (fun q3 e => ?_) (fun q0_1 => ?_)
    · have lq : lvOf (tp s.1) = 2 := lv2.mpr (Or.inr (Or.inl e))
      rw [rdP_sg (by decide) q3 lq] at h1 h0
      refine V_ne (pc := 25) (t := 37) dX9_test_25 (by decide) (fun _ => ?_) (fun h => absurd h (by decide))
      refine V_aln (pc := 37) dX9_test_37 rfl rfl ?_
      refine M_gi (pc := 38) hM 18 306 dX9_test_38 (FL_X9_223 rfl) rfl rfl ?_
      refine V_isn (pc := 41) (fun y => [(0, .ref m), (1, .int key), (2, .int y)]) dX9_test_41 rfl (by decide) (fun _ => rfl) (fun y41 ey41 => ?_)
      obtain rfl : y41 = tp s.1 := by rw [ey41]; exact hP.1.2.2.2 q3
      refine V_aln (pc := 42) dX9_test_42 rfl rfl ?_
      refine V_cVv0 (pc := 43) (jc_X9_248 dX9_test_43 rfl) rfl rfl (Nat.le_of_ble_eq_true rfl) (mF_k hM) ?_
      refine m_nextToken hM (L := L) (tp := tp) (by rw [uA_ne _ _ (by decide)]; exact hT) ((hP.2.2 301 (by decide)).trans hL) h96 g1 hP.1.1.2.1 hP.1.1.2.2 g4 (by omega) (fun Fn nf nt => ?_)
      refine V_aln (pc := 46) dX9_test_46 rfl rfl ?_
      refine V_iln (pc := 47) dX9_test_47 rfl rfl ?_
      refine V_cVi0 (pc := 48) (jc_X9_257 dX9_test_48 rfl) rfl rfl (Nat.le_of_ble_eq_true rfl) (mF_k hM) ?_
      refine ih d b n (nxs tp L s) o Fn _ nk.1 (by omega) hb hn (by unfold fuN; rw [if_pos (by decide)]; omega) (hP.nx nf nt) (fun F2 r1 hP2 => ?_) (fun F2 r0 hP2 => ?_)
      · rw [if_pos r1] at h1 h0
        have rk := rdP_ok tp L key f 3 b n (nxs tp L s) o nk.1
        rw [if_pos rfl] at h1
        refine V_ne (pc := 51) (t := 56) dX9_test_51 (by decide) (fun _ => ?_) (fun h => absurd h (by decide))
        refine V_aln (pc := 56) dX9_test_56 rfl rfl ?_
        refine V_iconst (pc := 57) (v := 2) dX9_test_57 (by decide) ?_
        refine V_iln (pc := 58) dX9_test_58 rfl rfl ?_
        refine V_cVv0 (pc := 59) (jc_X9_251 dX9_test_59 rfl) rfl rfl (Nat.le_of_ble_eq_true rfl) (mF_k hM) ?_
        refine m_step (A0 := A0) (z := z) (o := (rdP tp L key f 3 b n (nxs tp L s) o).2.2) hM rfl hP2.2.1.2.2.2.1 hP2.2.1.2.2.1 (by have := rk.1.1; have := rk.1.2.1; omega) ?_
        refine V_iconst (pc := 62) (v := 1) dX9_test_62 (by decide) ?_
        refine V_iret (pc := 63) dX9_test_63 rfl rfl ?_
        first | exact h1 F rfl hP | exact h1 _ rfl (hP2.sg (tp s.1))
      · rw [if_neg (by rw [r0]; decide)] at h0
        refine V_ne (pc := 51) (t := 56) dX9_test_51 (by decide) (fun h => absurd h (by decide)) (fun _ => ?_)
        refine V_iconst (pc := 54) (v := 0) dX9_test_54 (by decide) ?_
        refine V_iret (pc := 55) dX9_test_55 rfl rfl ?_
        exact h0 F2 r0 hP2
    · refine V_ne (pc := 25) (t := 37) dX9_test_25 (by decide) (fun h => absurd h (by decide)) (fun _ => ?_)
      refine V_aln (pc := 28) dX9_test_28 rfl rfl ?_
      refine V_bipush (pc := 29) (v := 62) dX9_test_29 (by decide) ?_
      refine V_cVi0 (pc := 31) (jc_X9_245 dX9_test_31 rfl) rfl rfl (Nat.le_of_ble_eq_true rfl) (mF_k hM) ?_
      refine m_isSign (s := s) (tp := tp) hM hP.1 g4 (fun q3 e => ?_) (fun q0_2 => ?_)
      · have lq : lvOf (tp s.1) = 2 := lv2.mpr (Or.inr (Or.inr (e)))
        rw [rdP_sg (by decide) q3 lq] at h1 h0
        refine V_eq (pc := 34) (t := 62) dX9_test_34 (by decide) (fun h => absurd h (by decide)) (fun _ => ?_)
        refine V_aln (pc := 37) dX9_test_37 rfl rfl ?_
        refine M_gi (pc := 38) hM 18 306 dX9_test_38 (FL_X9_223 rfl) rfl rfl ?_
        refine V_isn (pc := 41) (fun y => [(0, .ref m), (1, .int key), (2, .int y)]) dX9_test_41 rfl (by decide) (fun _ => rfl) (fun y41 ey41 => ?_)
        obtain rfl : y41 = tp s.1 := by rw [ey41]; exact hP.1.2.2.2 q3
        refine V_aln (pc := 42) dX9_test_42 rfl rfl ?_
        refine V_cVv0 (pc := 43) (jc_X9_248 dX9_test_43 rfl) rfl rfl (Nat.le_of_ble_eq_true rfl) (mF_k hM) ?_
        refine m_nextToken hM (L := L) (tp := tp) (by rw [uA_ne _ _ (by decide)]; exact hT) ((hP.2.2 301 (by decide)).trans hL) h96 g1 hP.1.1.2.1 hP.1.1.2.2 g4 (by omega) (fun Fn nf nt => ?_)
        refine V_aln (pc := 46) dX9_test_46 rfl rfl ?_
        refine V_iln (pc := 47) dX9_test_47 rfl rfl ?_
        refine V_cVi0 (pc := 48) (jc_X9_257 dX9_test_48 rfl) rfl rfl (Nat.le_of_ble_eq_true rfl) (mF_k hM) ?_
        refine ih d b n (nxs tp L s) o Fn _ nk.1 (by omega) hb hn (by unfold fuN; rw [if_pos (by decide)]; omega) (hP.nx nf nt) (fun F2 r1 hP2 => ?_) (fun F2 r0 hP2 => ?_)
        · rw [if_pos r1] at h1 h0
          have rk := rdP_ok tp L key f 3 b n (nxs tp L s) o nk.1
          rw [if_pos rfl] at h1
          refine V_ne (pc := 51) (t := 56) dX9_test_51 (by decide) (fun _ => ?_) (fun h => absurd h (by decide))
          refine V_aln (pc := 56) dX9_test_56 rfl rfl ?_
          refine V_iconst (pc := 57) (v := 2) dX9_test_57 (by decide) ?_
          refine V_iln (pc := 58) dX9_test_58 rfl rfl ?_
          refine V_cVv0 (pc := 59) (jc_X9_251 dX9_test_59 rfl) rfl rfl (Nat.le_of_ble_eq_true rfl) (mF_k hM) ?_
          refine m_step (A0 := A0) (z := z) (o := (rdP tp L key f 3 b n (nxs tp L s) o).2.2) hM rfl hP2.2.1.2.2.2.1 hP2.2.1.2.2.1 (by have := rk.1.1; have := rk.1.2.1; omega) ?_
          refine V_iconst (pc := 62) (v := 1) dX9_test_62 (by decide) ?_
          refine V_iret (pc := 63) dX9_test_63 rfl rfl ?_
          first | exact h1 F rfl hP | exact h1 _ rfl (hP2.sg (tp s.1))
        · rw [if_neg (by rw [r0]; decide)] at h0
          refine V_ne (pc := 51) (t := 56) dX9_test_51 (by decide) (fun h => absurd h (by decide)) (fun _ => ?_)
          refine V_iconst (pc := 54) (v := 0) dX9_test_54 (by decide) ?_
          refine V_iret (pc := 55) dX9_test_55 rfl rfl ?_
          exact h0 F2 r0 hP2
      · have nq : ¬ (s.2.2 = 3 ∧ lvOf (tp s.1) = 2) := fun q => by
          rcases lv2.mp q.2 with e | e | e
          · exact q0_0 ⟨q.1, e⟩
          · exact q0_1 ⟨q.1, e⟩
          · exact q0_2 ⟨q.1, e⟩
        rw [rdP_ns (by decide) nq] at h1
        refine V_eq (pc := 34) (t := 62) dX9_test_34 (by decide) (fun _ => ?_) (fun h => absurd h (by decide))
        refine V_iconst (pc := 62) (v := 1) dX9_test_62 (by decide) ?_
        refine V_iret (pc := 63) dX9_test_63 rfl rfl ?_
        first | exact h1 F rfl hP | exact h1 _ rfl (hP2.sg (tp s.1))
set_option maxRecDepth 100000 in
set_option maxHeartbeats 4000000 in
theorem m_sum_L {x : pX} {S : pS} {m : Nat} {as : Nat → Nat} {A0 : Nat → Nat → Int32} {F0 tp : Nat → Int32} {L : Nat} {key : Int32} {z f : Nat} (hM : MF S m as) (hT : A0 300 = tp) (hL : F0 301 = nI L) (h96 : L ≤ 96) (hz : z ≤ 2954) (ih : CT x S m as A0 F0 tp L key z M_X9_term 4 f) (il : CL x S m as A0 F0 tp L key z M_X9_sum 9 f) : CL x S m as A0 F0 tp L key z M_X9_sum 9 (f + 1) := by
  intro d b n s o F Q ht ho hb hn hf hP h1 h0
  have g1 := ht.1
  have g2 := ht.2.1
  have g3 := ht.2.2.1
  have g4 := ht.2.2.2
  have nk := nxs_ok tp ht
  unfold fuN at hf
  rw [if_neg (by decide)] at hf
  have e0 : d + (f + 1) + 4 = d + f + 4 + 1 := by omega
  rw [e0]
  refine V_aln (pc := 10) dX9_sum_10 rfl rfl ?_
  refine V_bipush (pc := 11) (v := 43) dX9_sum_11 (by decide) ?_
  refine V_cVi0 (pc := 13) (jc_X9_245 dX9_sum_13 rfl) rfl rfl (Nat.le_of_ble_eq_true rfl) (mF_k hM) ?_
  refine m_isSign (s := s) (tp := tp) hM hP.1 g4 (fun q3 e => ?_) (fun q0_0 => ?_)
  · have lq : lvOf (tp s.1) = 3 := lv3.mpr (Or.inl e)
    rw [rdP_sg (by decide) q3 lq] at h1 h0
    refine V_ne (pc := 16) (t := 28) dX9_sum_16 (by decide) (fun _ => ?_) (fun h => absurd h (by decide))
    refine V_aln (pc := 28) dX9_sum_28 rfl rfl ?_
    refine M_gi (pc := 29) hM 18 306 dX9_sum_29 (FL_X9_223 rfl) rfl rfl ?_
    refine V_isn (pc := 32) (fun y => [(0, .ref m), (1, .int key), (2, .int y)]) dX9_sum_32 rfl (by decide) (fun _ => rfl) (fun y32 ey32 => ?_)
    obtain rfl : y32 = tp s.1 := by rw [ey32]; exact hP.1.2.2.2 q3
    refine V_aln (pc := 33) dX9_sum_33 rfl rfl ?_
    refine V_cVv0 (pc := 34) (jc_X9_248 dX9_sum_34 rfl) rfl rfl (Nat.le_of_ble_eq_true rfl) (mF_k hM) ?_
    refine m_nextToken hM (L := L) (tp := tp) (by rw [uA_ne _ _ (by decide)]; exact hT) ((hP.2.2 301 (by decide)).trans hL) h96 g1 hP.1.1.2.1 hP.1.1.2.2 g4 (by omega) (fun Fn nf nt => ?_)
    refine V_aln (pc := 37) dX9_sum_37 rfl rfl ?_
    refine V_iln (pc := 38) dX9_sum_38 rfl rfl ?_
    refine V_cVi0 (pc := 39) (jc_X9_260 dX9_sum_39 rfl) rfl rfl (Nat.le_of_ble_eq_true rfl) (mF_k hM) ?_
    refine ih d b n (nxs tp L s) o Fn _ nk.1 (by omega) hb hn (by unfold fuN; rw [if_pos (by decide)]; omega) (hP.nx nf nt) (fun F2 r1 hP2 => ?_) (fun F2 r0 hP2 => ?_)
    · rw [if_pos r1] at h1 h0
      have rk := rdP_ok tp L key f 4 b n (nxs tp L s) o nk.1
      rw [if_neg (by decide)] at h1 h0
      refine V_ne (pc := 42) (t := 47) dX9_sum_42 (by decide) (fun _ => ?_) (fun h => absurd h (by decide))
      refine V_aln (pc := 47) dX9_sum_47 rfl rfl ?_
      refine V_iconst (pc := 48) (v := 2) dX9_sum_48 (by decide) ?_
      refine V_iln (pc := 49) dX9_sum_49 rfl rfl ?_
      refine V_cVv0 (pc := 50) (jc_X9_251 dX9_sum_50 rfl) rfl rfl (Nat.le_of_ble_eq_true rfl) (mF_k hM) ?_
      refine m_step (A0 := A0) (z := z) (o := (rdP tp L key f 4 b n (nxs tp L s) o).2.2) hM rfl hP2.2.1.2.2.2.1 hP2.2.1.2.2.1 (by have := rk.1.1; have := rk.1.2.1; omega) ?_
      refine V_goto (pc := 53) (t := 10) dX9_sum_53 (by decide) ?_
      refine V_lp [0, 1] (ls' := [(0, .ref m), (1, .int key)]) rfl ?_
      have e1 : d + f + 4 + 1 = d + 1 + f + 4 := by omega
      rw [e1]
      refine il (d + 1) b n _ _ _ Q rk.1 ?_ hb hn ?_ (hP2.sg (tp s.1)) h1 h0
      · rw [List.length_append]; show _ + 1 ≤ _; omega
      · unfold fuN; rw [if_neg (by decide)]; omega
    · rw [if_neg (by rw [r0]; decide)] at h0
      refine V_ne (pc := 42) (t := 47) dX9_sum_42 (by decide) (fun h => absurd h (by decide)) (fun _ => ?_)
      refine V_iconst (pc := 45) (v := 0) dX9_sum_45 (by decide) ?_
      refine V_iret (pc := 46) dX9_sum_46 rfl rfl ?_
      exact h0 F2 r0 hP2
  · refine V_ne (pc := 16) (t := 28) dX9_sum_16 (by decide) (fun h => absurd h (by decide)) (fun _ => ?_)
    refine V_aln (pc := 19) dX9_sum_19 rfl rfl ?_
    refine V_bipush (pc := 20) (v := 45) dX9_sum_20 (by decide) ?_
    refine V_cVi0 (pc := 22) (jc_X9_245 dX9_sum_22 rfl) rfl rfl (Nat.le_of_ble_eq_true rfl) (mF_k hM) ?_
    refine m_isSign (s := s) (tp := tp) hM hP.1 g4 (fun q3 e => ?_) (fun q0_1 => ?_)
    · have lq : lvOf (tp s.1) = 3 := lv3.mpr (Or.inr (e))
      rw [rdP_sg (by decide) q3 lq] at h1 h0
      refine V_eq (pc := 25) (t := 56) dX9_sum_25 (by decide) (fun h => absurd h (by decide)) (fun _ => ?_)
      refine V_aln (pc := 28) dX9_sum_28 rfl rfl ?_
      refine M_gi (pc := 29) hM 18 306 dX9_sum_29 (FL_X9_223 rfl) rfl rfl ?_
      refine V_isn (pc := 32) (fun y => [(0, .ref m), (1, .int key), (2, .int y)]) dX9_sum_32 rfl (by decide) (fun _ => rfl) (fun y32 ey32 => ?_)
      obtain rfl : y32 = tp s.1 := by rw [ey32]; exact hP.1.2.2.2 q3
      refine V_aln (pc := 33) dX9_sum_33 rfl rfl ?_
      refine V_cVv0 (pc := 34) (jc_X9_248 dX9_sum_34 rfl) rfl rfl (Nat.le_of_ble_eq_true rfl) (mF_k hM) ?_
      refine m_nextToken hM (L := L) (tp := tp) (by rw [uA_ne _ _ (by decide)]; exact hT) ((hP.2.2 301 (by decide)).trans hL) h96 g1 hP.1.1.2.1 hP.1.1.2.2 g4 (by omega) (fun Fn nf nt => ?_)
      refine V_aln (pc := 37) dX9_sum_37 rfl rfl ?_
      refine V_iln (pc := 38) dX9_sum_38 rfl rfl ?_
      refine V_cVi0 (pc := 39) (jc_X9_260 dX9_sum_39 rfl) rfl rfl (Nat.le_of_ble_eq_true rfl) (mF_k hM) ?_
      refine ih d b n (nxs tp L s) o Fn _ nk.1 (by omega) hb hn (by unfold fuN; rw [if_pos (by decide)]; omega) (hP.nx nf nt) (fun F2 r1 hP2 => ?_) (fun F2 r0 hP2 => ?_)
      · rw [if_pos r1] at h1 h0
        have rk := rdP_ok tp L key f 4 b n (nxs tp L s) o nk.1
        rw [if_neg (by decide)] at h1 h0
        refine V_ne (pc := 42) (t := 47) dX9_sum_42 (by decide) (fun _ => ?_) (fun h => absurd h (by decide))
        refine V_aln (pc := 47) dX9_sum_47 rfl rfl ?_
        refine V_iconst (pc := 48) (v := 2) dX9_sum_48 (by decide) ?_
        refine V_iln (pc := 49) dX9_sum_49 rfl rfl ?_
        refine V_cVv0 (pc := 50) (jc_X9_251 dX9_sum_50 rfl) rfl rfl (Nat.le_of_ble_eq_true rfl) (mF_k hM) ?_
        refine m_step (A0 := A0) (z := z) (o := (rdP tp L key f 4 b n (nxs tp L s) o).2.2) hM rfl hP2.2.1.2.2.2.1 hP2.2.1.2.2.1 (by have := rk.1.1; have := rk.1.2.1; omega) ?_
        refine V_goto (pc := 53) (t := 10) dX9_sum_53 (by decide) ?_
        refine V_lp [0, 1] (ls' := [(0, .ref m), (1, .int key)]) rfl ?_
        have e1 : d + f + 4 + 1 = d + 1 + f + 4 := by omega
        rw [e1]
        refine il (d + 1) b n _ _ _ Q rk.1 ?_ hb hn ?_ (hP2.sg (tp s.1)) h1 h0
        · rw [List.length_append]; show _ + 1 ≤ _; omega
        · unfold fuN; rw [if_neg (by decide)]; omega
      · rw [if_neg (by rw [r0]; decide)] at h0
        refine V_ne (pc := 42) (t := 47) dX9_sum_42 (by decide) (fun h => absurd h (by decide)) (fun _ => ?_)
        refine V_iconst (pc := 45) (v := 0) dX9_sum_45 (by decide) ?_
        refine V_iret (pc := 46) dX9_sum_46 rfl rfl ?_
        exact h0 F2 r0 hP2
    · have nq : ¬ (s.2.2 = 3 ∧ lvOf (tp s.1) = 3) := fun q => by
        rcases lv3.mp q.2 with e | e
        · exact q0_0 ⟨q.1, e⟩
        · exact q0_1 ⟨q.1, e⟩
      rw [rdP_ns (by decide) nq] at h1
      refine V_eq (pc := 25) (t := 56) dX9_sum_25 (by decide) (fun _ => ?_) (fun h => absurd h (by decide))
      refine V_iconst (pc := 56) (v := 1) dX9_sum_56 (by decide) ?_
      refine V_iret (pc := 57) dX9_sum_57 rfl rfl ?_
      exact h1 F rfl hP
set_option maxRecDepth 100000 in
set_option maxHeartbeats 4000000 in
theorem m_term_L {x : pX} {S : pS} {m : Nat} {as : Nat → Nat} {A0 : Nat → Nat → Int32} {F0 tp : Nat → Int32} {L : Nat} {key : Int32} {z f : Nat} (hM : MF S m as) (hT : A0 300 = tp) (hL : F0 301 = nI L) (h96 : L ≤ 96) (hz : z ≤ 2954) (ih : CT x S m as A0 F0 tp L key z M_X9_part0 5 f) (il : CL x S m as A0 F0 tp L key z M_X9_term 10 f) : CL x S m as A0 F0 tp L key z M_X9_term 10 (f + 1) := by
  intro d b n s o F Q ht ho hb hn hf hP h1 h0
  have g1 := ht.1
  have g2 := ht.2.1
  have g3 := ht.2.2.1
  have g4 := ht.2.2.2
  have nk := nxs_ok tp ht
  unfold fuN at hf
  rw [if_neg (by decide)] at hf
  have e0 : d + (f + 1) + 4 = d + f + 4 + 1 := by omega
  rw [e0]
  refine V_aln (pc := 10) dX9_term_10 rfl rfl ?_
  refine V_bipush (pc := 11) (v := 42) dX9_term_11 (by decide) ?_
  refine V_cVi0 (pc := 13) (jc_X9_245 dX9_term_13 rfl) rfl rfl (Nat.le_of_ble_eq_true rfl) (mF_k hM) ?_
  refine m_isSign (s := s) (tp := tp) hM hP.1 g4 (fun q3 e => ?_) (fun q0_0 => ?_)
  · have lq : lvOf (tp s.1) = 4 := lv4.mpr (Or.inl e)
    rw [rdP_sg (by decide) q3 lq] at h1 h0
    refine V_ne (pc := 16) (t := 28) dX9_term_16 (by decide) (fun _ => ?_) (fun h => absurd h (by decide))
    refine V_aln (pc := 28) dX9_term_28 rfl rfl ?_
    refine M_gi (pc := 29) hM 18 306 dX9_term_29 (FL_X9_223 rfl) rfl rfl ?_
    refine V_isn (pc := 32) (fun y => [(0, .ref m), (1, .int key), (2, .int y)]) dX9_term_32 rfl (by decide) (fun _ => rfl) (fun y32 ey32 => ?_)
    obtain rfl : y32 = tp s.1 := by rw [ey32]; exact hP.1.2.2.2 q3
    refine V_aln (pc := 33) dX9_term_33 rfl rfl ?_
    refine V_cVv0 (pc := 34) (jc_X9_248 dX9_term_34 rfl) rfl rfl (Nat.le_of_ble_eq_true rfl) (mF_k hM) ?_
    refine m_nextToken hM (L := L) (tp := tp) (by rw [uA_ne _ _ (by decide)]; exact hT) ((hP.2.2 301 (by decide)).trans hL) h96 g1 hP.1.1.2.1 hP.1.1.2.2 g4 (by omega) (fun Fn nf nt => ?_)
    refine V_aln (pc := 37) dX9_term_37 rfl rfl ?_
    refine V_iln (pc := 38) dX9_term_38 rfl rfl ?_
    refine V_cVi0 (pc := 39) (jc_X9_263 dX9_term_39 rfl) rfl rfl (Nat.le_of_ble_eq_true rfl) (mF_k hM) ?_
    refine ih d b n (nxs tp L s) o Fn _ nk.1 (by omega) hb hn (by unfold fuN; rw [if_pos (by decide)]; omega) (hP.nx nf nt) (fun F2 r1 hP2 => ?_) (fun F2 r0 hP2 => ?_)
    · rw [if_pos r1] at h1 h0
      have rk := rdP_ok tp L key f 5 b n (nxs tp L s) o nk.1
      rw [if_neg (by decide)] at h1 h0
      refine V_ne (pc := 42) (t := 47) dX9_term_42 (by decide) (fun _ => ?_) (fun h => absurd h (by decide))
      refine V_aln (pc := 47) dX9_term_47 rfl rfl ?_
      refine V_iconst (pc := 48) (v := 2) dX9_term_48 (by decide) ?_
      refine V_iln (pc := 49) dX9_term_49 rfl rfl ?_
      refine V_cVv0 (pc := 50) (jc_X9_251 dX9_term_50 rfl) rfl rfl (Nat.le_of_ble_eq_true rfl) (mF_k hM) ?_
      refine m_step (A0 := A0) (z := z) (o := (rdP tp L key f 5 b n (nxs tp L s) o).2.2) hM rfl hP2.2.1.2.2.2.1 hP2.2.1.2.2.1 (by have := rk.1.1; have := rk.1.2.1; omega) ?_
      refine V_goto (pc := 53) (t := 10) dX9_term_53 (by decide) ?_
      refine V_lp [0, 1] (ls' := [(0, .ref m), (1, .int key)]) rfl ?_
      have e1 : d + f + 4 + 1 = d + 1 + f + 4 := by omega
      rw [e1]
      refine il (d + 1) b n _ _ _ Q rk.1 ?_ hb hn ?_ (hP2.sg (tp s.1)) h1 h0
      · rw [List.length_append]; show _ + 1 ≤ _; omega
      · unfold fuN; rw [if_neg (by decide)]; omega
    · rw [if_neg (by rw [r0]; decide)] at h0
      refine V_ne (pc := 42) (t := 47) dX9_term_42 (by decide) (fun h => absurd h (by decide)) (fun _ => ?_)
      refine V_iconst (pc := 45) (v := 0) dX9_term_45 (by decide) ?_
      refine V_iret (pc := 46) dX9_term_46 rfl rfl ?_
      exact h0 F2 r0 hP2
  · refine V_ne (pc := 16) (t := 28) dX9_term_16 (by decide) (fun h => absurd h (by decide)) (fun _ => ?_)
    refine V_aln (pc := 19) dX9_term_19 rfl rfl ?_
    refine V_bipush (pc := 20) (v := 47) dX9_term_20 (by decide) ?_
    refine V_cVi0 (pc := 22) (jc_X9_245 dX9_term_22 rfl) rfl rfl (Nat.le_of_ble_eq_true rfl) (mF_k hM) ?_
    refine m_isSign (s := s) (tp := tp) hM hP.1 g4 (fun q3 e => ?_) (fun q0_1 => ?_)
    · have lq : lvOf (tp s.1) = 4 := lv4.mpr (Or.inr (e))
      rw [rdP_sg (by decide) q3 lq] at h1 h0
      refine V_eq (pc := 25) (t := 56) dX9_term_25 (by decide) (fun h => absurd h (by decide)) (fun _ => ?_)
      refine V_aln (pc := 28) dX9_term_28 rfl rfl ?_
      refine M_gi (pc := 29) hM 18 306 dX9_term_29 (FL_X9_223 rfl) rfl rfl ?_
      refine V_isn (pc := 32) (fun y => [(0, .ref m), (1, .int key), (2, .int y)]) dX9_term_32 rfl (by decide) (fun _ => rfl) (fun y32 ey32 => ?_)
      obtain rfl : y32 = tp s.1 := by rw [ey32]; exact hP.1.2.2.2 q3
      refine V_aln (pc := 33) dX9_term_33 rfl rfl ?_
      refine V_cVv0 (pc := 34) (jc_X9_248 dX9_term_34 rfl) rfl rfl (Nat.le_of_ble_eq_true rfl) (mF_k hM) ?_
      refine m_nextToken hM (L := L) (tp := tp) (by rw [uA_ne _ _ (by decide)]; exact hT) ((hP.2.2 301 (by decide)).trans hL) h96 g1 hP.1.1.2.1 hP.1.1.2.2 g4 (by omega) (fun Fn nf nt => ?_)
      refine V_aln (pc := 37) dX9_term_37 rfl rfl ?_
      refine V_iln (pc := 38) dX9_term_38 rfl rfl ?_
      refine V_cVi0 (pc := 39) (jc_X9_263 dX9_term_39 rfl) rfl rfl (Nat.le_of_ble_eq_true rfl) (mF_k hM) ?_
      refine ih d b n (nxs tp L s) o Fn _ nk.1 (by omega) hb hn (by unfold fuN; rw [if_pos (by decide)]; omega) (hP.nx nf nt) (fun F2 r1 hP2 => ?_) (fun F2 r0 hP2 => ?_)
      · rw [if_pos r1] at h1 h0
        have rk := rdP_ok tp L key f 5 b n (nxs tp L s) o nk.1
        rw [if_neg (by decide)] at h1 h0
        refine V_ne (pc := 42) (t := 47) dX9_term_42 (by decide) (fun _ => ?_) (fun h => absurd h (by decide))
        refine V_aln (pc := 47) dX9_term_47 rfl rfl ?_
        refine V_iconst (pc := 48) (v := 2) dX9_term_48 (by decide) ?_
        refine V_iln (pc := 49) dX9_term_49 rfl rfl ?_
        refine V_cVv0 (pc := 50) (jc_X9_251 dX9_term_50 rfl) rfl rfl (Nat.le_of_ble_eq_true rfl) (mF_k hM) ?_
        refine m_step (A0 := A0) (z := z) (o := (rdP tp L key f 5 b n (nxs tp L s) o).2.2) hM rfl hP2.2.1.2.2.2.1 hP2.2.1.2.2.1 (by have := rk.1.1; have := rk.1.2.1; omega) ?_
        refine V_goto (pc := 53) (t := 10) dX9_term_53 (by decide) ?_
        refine V_lp [0, 1] (ls' := [(0, .ref m), (1, .int key)]) rfl ?_
        have e1 : d + f + 4 + 1 = d + 1 + f + 4 := by omega
        rw [e1]
        refine il (d + 1) b n _ _ _ Q rk.1 ?_ hb hn ?_ (hP2.sg (tp s.1)) h1 h0
        · rw [List.length_append]; show _ + 1 ≤ _; omega
        · unfold fuN; rw [if_neg (by decide)]; omega
      · rw [if_neg (by rw [r0]; decide)] at h0
        refine V_ne (pc := 42) (t := 47) dX9_term_42 (by decide) (fun h => absurd h (by decide)) (fun _ => ?_)
        refine V_iconst (pc := 45) (v := 0) dX9_term_45 (by decide) ?_
        refine V_iret (pc := 46) dX9_term_46 rfl rfl ?_
        exact h0 F2 r0 hP2
    · have nq : ¬ (s.2.2 = 3 ∧ lvOf (tp s.1) = 4) := fun q => by
        rcases lv4.mp q.2 with e | e
        · exact q0_0 ⟨q.1, e⟩
        · exact q0_1 ⟨q.1, e⟩
      rw [rdP_ns (by decide) nq] at h1
      refine V_eq (pc := 25) (t := 56) dX9_term_25 (by decide) (fun _ => ?_) (fun h => absurd h (by decide))
      refine V_iconst (pc := 56) (v := 1) dX9_term_56 (by decide) ?_
      refine V_iret (pc := 57) dX9_term_57 rfl rfl ?_
      exact h1 F rfl hP
