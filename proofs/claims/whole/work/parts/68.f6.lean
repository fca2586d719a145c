/-! ===== the law from its entry ===== -/
theorem str_of {args : Array Value} {s : State} {A : Nat → Prop} {k : Nat} {tx : String} {cs : List Nat} (hl : cs.length < 100) (hex : (Cond.exactly (.string RX1 k) "java/lang/String").before args s = true) (hco : (Cond.eq (.field (.string RX1 k) "java/lang/String" "coder" "B") (.int 0)).before args s = true) (har : (Cond.arrayOf (.field (.string RX1 k) "java/lang/String" "value" "[B") .byte).before args s = true) (hle : (Cond.eq (.length (.field (.string RX1 k) "java/lang/String" "value" "[B")) (.int (Int32.ofNat cs.length))).before args s = true) (hel : ∀ j : Nat, j < cs.length → (Cond.eq (.elem (.field (.string RX1 k) "java/lang/String" "value" "[B") (.int (Int32.ofNat j))) (.int (nI (cs.getD j 0)))).before args s = true) (hsr : (Cond.stringRef RX1 k tx).before args s = true) (hA : ∀ a : Nat, a < s.heap.size → ¬ A a) : ∃ a b : Nat, vk_R RX1 k tx a s ∧ va_O RJ0 a A s s.heap ∧ va_OF "java/lang/String" "value" "[B" (.ref b) a A s s.heap ∧ va_OF "java/lang/String" "coder" "B" (.int 0) a A s s.heap ∧ va_T .byte b cs.length (fun k => .int (nI (cs.getD k 0))) A s s.heap := by
  obtain ⟨a, c, cA, kA, q1, q2, q3, q4, q5, q6, -⟩ := Cond.exactly_spec (args := args) (first := s) (o := none) (s := s) (idx := []) (t := .string RX1 k) (cls := "java/lang/String") hex
  obtain ⟨t, ht, hT⟩ := va_Tof (f := fun j => .int (nI (cs.getD j 0))) (A := A) (by omega) har (va_eqt hle) (fun j hj => va_eqt (hel j hj)) hA
  exact ⟨a, t, vk_R.of hsr q1, ⟨cA, q3, q5, by rw [q6]; exact q2, hA a (Array.getElem?_eq_some_iff.mp q3).1⟩, vk_OFof q1 ht hA, vk_OFof q1 (va_eqt hco) hA, hT⟩
/-- the empty pool -/
def S00 : pS := (([], fun _ => 0), ((fun _ _ => 0), (fun _ _ => none)), (fun _ => 0), ((fun _ _ => 0), (fun _ _ => none)))
set_option maxRecDepth 100000 in
set_option maxHeartbeats 8000000 in
theorem law_0 {x : pX} {Q : Int32 → pS → Prop} {a N : Nat} {f : Nat → Value} {w : Nat → Int32} (hxA : XA x) (hxS : XS x) (hm : (FieldType.int, a, N, f) ∈ x.2.2.1) (hN : N ≤ 384) (hf : ∀ k, k < N → f k = .int (w k)) (h : ∀ S, Q 1 S) : V x (0 + 732) M_L_law (qi Q) (600000, 7302250) 0 [(0, .ref a)] [] S00 := by
  refine V_new (pc := 0) (jn_L_7 dL_law_0 rfl) (Nat.le_of_ble_eq_true rfl) (Nat.le_of_ble_eq_true rfl) (fun cc q_cc => ?_)
  refine V_dup (pc := 3) dL_law_3 rfl ?_
  refine V_cIv (pc := 4) (jc_L_9 dL_law_4 rfl) rfl (Nat.le_of_ble_eq_true rfl) (Nat.le_of_ble_eq_true rfl) (Nat.le_of_ble_eq_true rfl) ?_
  refine i_X8 ob_new (fun lv im tr ct S1 G1 hz => ?_)
  refine V_asn (pc := 7) (ls' := [(0, .ref a), (1, .ref cc)]) dL_law_7 rfl (by decide) rfl ?_
  refine V_new (pc := 8) (jn_L_10 dL_law_8 rfl) (Nat.le_of_ble_eq_true rfl) (Nat.le_of_ble_eq_true rfl) (fun m q_m => ?_)
  refine V_dup (pc := 11) dL_law_11 rfl ?_
  refine V_cIv (pc := 12) (jc_L_12 dL_law_12 rfl) rfl (Nat.le_of_ble_eq_true rfl) (Nat.le_of_ble_eq_true rfl) (Nat.le_of_ble_eq_true rfl) ?_
  refine i_X9 ob_new (fun as S2 G2 has hM hR => ?_)
  refine V_asn (pc := 15) (ls' := [(0, .ref a), (1, .ref cc), (2, .ref m)]) dL_law_15 rfl (by decide) rfl ?_
  refine V_iconst (pc := 16) (v := 0) dL_law_16 (by decide) ?_
  refine V_isn (pc := 17) (fun y => [(0, .ref a), (1, .ref cc), (2, .ref m), (3, .int y)]) dL_law_17 rfl (by decide) (fun _ => rfl) (fun y17 ey17 => ?_)
  obtain rfl : y17 = nI 0 := ey17
  have G0 : GX (fun _ => True) S00 S2 := GX.tr (GX.tr (GX.tr (GX.mo (gx_O q_cc (by decide)) (fun _ _ _ => trivial)) G1 (fun _ _ _ => trivial)) (gx_O q_m (by decide)) (fun _ _ _ => trivial)) G2 (fun _ _ _ => trivial)
  have Gm : GX (fun z => z = m) S1 S2 := GX.tr (gx_O q_m (by decide)) G2 (fun _ _ q => q)
  have h5 : ∀ z, z ∈ gL S2 → gK S2 z ≠ 5 := fun z hz => G0.2 z hz (fun q => absurd (show z ∈ ([] : List Nat) from q) List.not_mem_nil)
  have hI := iv_0 hz Gm (fun z hz e => q_m (e ▸ hz)) (fun f hf q => has f hf (List.mem_append_left _ q)) hM h5
  exact law_L (d := 0) hxA hxS hm (by omega) hf (fun S => h S) 64 0 S2 A0 (fun _ => 0) 0 0 0 _ (by omega) (by omega) (Nat.le_of_ble_eq_true rfl) (Nat.le_of_ble_eq_true rfl) hI hR
/-! THE CLAIM OUT OF ONE WALK OF THE LAW'S BODY. Your part is whole_start (and what it stands on); all else here is the same for every law, but numbers. -/
def R_law : String := "WornWeightsLaw"
def lw_P (b : Addr) (xs : List Int32) (args : Array Value) (s : State) : Prop := args = #[.ref b] ∧ s.IntsAt b xs ∧ xs.length ≤ 384 ∧ (Jvm.Cond.and given_1 narrow_1).before args s = true
def lw_Q (_ : Array Value) (s : State) (o : Outcome) (t : State) : Prop := o = .returned (some (.int 1)) ∧ Framed s o t [] 600000 7302250
def lw_Z (below : List Frame) (a : Array Value) (s : State) : State → Prop := fun t => ∃ o, t.status = .running ∧ Ended t below o ∧ lw_Q a s o t
/-- the law's own end, with 1 on the stack, nothing written that was there before, its room as the claim has it -/
theorem lw_ret {p : Program} {l : Launch} {e : Env} {s : State} {m : MethodId} {below : List Frame} {meth : Method} {c : Code} {b : Nat} (hx : p.tables.exec = Jvm.exec) (hb : c.code = code) (hr : meth.sig.returnType = ret) (hlocks : meth.locks = false) {pc : Nat} {H : Heap} {ls : Array Slot} (hdg : decode code pc = .ok (.ireturn, 1)) : W p l e room_1 s m #[Value.ref b] below meth c H [] 600000 7302250 (lw_Z below #[Value.ref b] s) (F0 m pc ls [.int 1]) := by
  intro T hT X
  obtain ⟨fs, hret, hrun, hended, hW, hframe⟩ := X.leave (v := some (.int 1)) (hlocks := hlocks) (fun h => by rw [hr] at h; cases h)
  have hmeth' : T.vm.method? m = some meth := X.method'
  refine ⟨T.setFrames fs, ?_, .returned (some (.int 1)), hrun, hended, rfl, ⟨_, rfl⟩, hW, hframe⟩
  jvm_step X.here [X.here.top, hx, hb, hdg, hmeth', hr, ret, narrow_b1]
  (try refine ⟨rfl, ?_⟩); (try refine ⟨rfl, ?_⟩)
  first | (intro acts; rw [hret _ acts rfl rfl rfl]) | rw [hret _ _ rfl rfl rfl]
  exact Steps.refl _
/-- what holds at the law's entry: the machine, the code, the tables' words (any of lw_tbl by 'hts w (by decide +kernel)'), the script of L ints xs at the cell b, what the Statement gives of the start (any of its parts by flat_of_before) -/
def lw_At (p : Program) (s : State) (m : MethodId) (meth : Method) (c : Code) (b L : Nat) (xs : Nat → Int32) : Prop :=
  p.tables.exec = Jvm.exec ∧ c.code = code ∧ meth.sig.returnType = ret ∧ c.maxLocals = 4 ∧ s.vm.findClass R_law = some m.cls ∧ (∀ w ∈ lw_tbl, w.before #[Value.ref b] s = true) ∧ va_X b L xs s s.heap ∧ b < s.heap.size ∧ meth.locks = false ∧ (Jvm.Cond.and given_1 narrow_1).before #[Value.ref b] s = true

theorem gd_lt (cs : List Nat) (h : ∀ c ∈ cs, c < 128) (k : Nat) : cs.getD k 0 < 128 := by
  rw [List.getD_eq_getElem?_getD]
  by_cases q : k < cs.length
  · rw [List.getElem?_eq_getElem q]; exact h _ (List.getElem_mem q)
  · rw [List.getElem?_eq_none (by omega)]; decide
set_option maxRecDepth 100000 in
set_option maxHeartbeats 8000000 in
theorem whole_start {p : Program} {e : Env} {s : State} {m : MethodId} {below : List Frame} {meth : Method} {c : Code} (l : Launch) (hflags : l.flags = flags0) {b L : Nat} {xs : Nat → Int32} (hL : L ≤ 384) (C0 : lw_At p s m meth c b L xs) : W p l e room_1 s m #[Value.ref b] below meth c s.heap [] 0 0 (lw_Z below #[Value.ref b] s) (entryFrame m ([Value.ref b] : List Value).toArray 4) := by
  obtain ⟨hx, hb, hr, hml, hown, hts, hX, hbl, hlocks, hgv⟩ := C0
  have hs := flat_of_before _ hgv
  have hA : ∀ a : Nat, a < s.heap.size → ¬ (fun q : Nat => s.heap.size ≤ q) a := fun a h => Nat.not_le.mpr h
  have ht : ∀ (i : Nat) (w : Cond), lw_tbl[i]? = some w → w.before #[Value.ref b] s = true := fun i w h => hts w (List.mem_of_getElem? h)
  obtain ⟨ab, hab, hT⟩ := va_Tof (tm := (.static "WornWeights" "ABOVE" "[I")) (ty := .int) (N := 6) (f := fun k => .int (abv k)) (A := fun q : Nat => s.heap.size ≤ q) (by decide) (hs (.arrayOf (.static "WornWeights" "ABOVE" "[I") .int) (by decide +kernel)) (va_eqt (z := 6) (hs (.eq (.length (.static "WornWeights" "ABOVE" "[I")) (.int 6)) (by decide +kernel))) (fun j hj => by
    match j, hj with
    | 0, _ => exact va_eqt (z := (-1)) (hs (.eq (.elem (.static "WornWeights" "ABOVE" "[I") (.int 0)) (.int (-1))) (by decide +kernel))
    | 1, _ => exact va_eqt (z := 0) (hs (.eq (.elem (.static "WornWeights" "ABOVE" "[I") (.int 1)) (.int 0)) (by decide +kernel))
    | 2, _ => exact va_eqt (z := 0) (hs (.eq (.elem (.static "WornWeights" "ABOVE" "[I") (.int 2)) (.int 0)) (by decide +kernel))
    | 3, _ => exact va_eqt (z := 1) (hs (.eq (.elem (.static "WornWeights" "ABOVE" "[I") (.int 3)) (.int 1)) (by decide +kernel))
    | 4, _ => exact va_eqt (z := 2) (hs (.eq (.elem (.static "WornWeights" "ABOVE" "[I") (.int 4)) (.int 2)) (by decide +kernel))
    | 5, _ => exact va_eqt (z := 0) (hs (.eq (.elem (.static "WornWeights" "ABOVE" "[I") (.int 5)) (.int 0)) (by decide +kernel))
    | n + 6, h => exact absurd h (by omega)) hA
  have zA := va_Zof (ht 398 (.laysStatic "WornWeights" "ABOVE" "[I") (by decide +kernel)) (ht 61 (.initialized "WornWeights") (by decide +kernel)) hab hA
  have zC := va_Zof (ht 681 (.laysStatic "java/lang/String" "COMPACT_STRINGS" "Z") (by decide +kernel)) (ht 75 (.initialized "java/lang/String") (by decide +kernel)) (va_eqt (z := 1) (hs (.eq (.static "java/lang/String" "COMPACT_STRINGS" "Z") (.int 1)) (by decide +kernel))) hA
  obtain ⟨o, zP⟩ : ∃ o : Option Nat, va_Z "jdk/internal/util/Preconditions" "SIOOBE_FORMATTER" "Ljava/util/function/BiFunction;" (va_rf o) (fun q : Nat => s.heap.size ≤ q) s s.heap := by
    rcases va_Zqof (ht 697 (.laysStatic "jdk/internal/util/Preconditions" "SIOOBE_FORMATTER" "Ljava/util/function/BiFunction;") (by decide +kernel)) (ht 77 (.initialized "jdk/internal/util/Preconditions") (by decide +kernel)) (hs (.isRef (.static "jdk/internal/util/Preconditions" "SIOOBE_FORMATTER" "Ljava/util/function/BiFunction;")) (by decide +kernel)) hA with q | ⟨t, q⟩
    · exact ⟨none, q⟩
    · exact ⟨some t, q⟩
  obtain ⟨a0, b0, r0, o0, v0, k0, t0⟩ := str_of (args := #[Value.ref b]) (k := 98) (tx := "wear") (cs := [119, 101, 97, 114]) (A := fun q : Nat => s.heap.size ≤ q) (by decide) (hs (.exactly (.string RX1 98) "java/lang/String") (by decide +kernel)) (hs (.eq (.field (.string RX1 98) "java/lang/String" "coder" "B") (.int 0)) (by decide +kernel)) (hs (.arrayOf (.field (.string RX1 98) "java/lang/String" "value" "[B") .byte) (by decide +kernel)) (hs (.eq (.length (.field (.string RX1 98) "java/lang/String" "value" "[B")) (.int 4)) (by decide +kernel)) (fun j hj => by
    match j, hj with
    | 0, _ => exact hs (.eq (.elem (.field (.string RX1 98) "java/lang/String" "value" "[B") (.int 0)) (.int 119)) (by decide +kernel)
    | 1, _ => exact hs (.eq (.elem (.field (.string RX1 98) "java/lang/String" "value" "[B") (.int 1)) (.int 101)) (by decide +kernel)
    | 2, _ => exact hs (.eq (.elem (.field (.string RX1 98) "java/lang/String" "value" "[B") (.int 2)) (.int 97)) (by decide +kernel)
    | 3, _ => exact hs (.eq (.elem (.field (.string RX1 98) "java/lang/String" "value" "[B") (.int 3)) (.int 114)) (by decide +kernel)
    | n + 4, h => exact absurd h (by simp only [List.length_cons, List.length_nil]; omega)) (ht 667 (.stringRef RX1 98 "wear") (by decide +kernel)) hA
  obtain ⟨a1, b1, r1, o1, v1, k1, t1⟩ := str_of (args := #[Value.ref b]) (k := 104) (tx := "law") (cs := [108, 97, 119]) (A := fun q : Nat => s.heap.size ≤ q) (by decide) (hs (.exactly (.string RX1 104) "java/lang/String") (by decide +kernel)) (hs (.eq (.field (.string RX1 104) "java/lang/String" "coder" "B") (.int 0)) (by decide +kernel)) (hs (.arrayOf (.field (.string RX1 104) "java/lang/String" "value" "[B") .byte) (by decide +kernel)) (hs (.eq (.length (.field (.string RX1 104) "java/lang/String" "value" "[B")) (.int 3)) (by decide +kernel)) (fun j hj => by
    match j, hj with
    | 0, _ => exact hs (.eq (.elem (.field (.string RX1 104) "java/lang/String" "value" "[B") (.int 0)) (.int 108)) (by decide +kernel)
    | 1, _ => exact hs (.eq (.elem (.field (.string RX1 104) "java/lang/String" "value" "[B") (.int 1)) (.int 97)) (by decide +kernel)
    | 2, _ => exact hs (.eq (.elem (.field (.string RX1 104) "java/lang/String" "value" "[B") (.int 2)) (.int 119)) (by decide +kernel)
    | n + 3, h => exact absurd h (by simp only [List.length_cons, List.length_nil]; omega)) (ht 720 (.stringRef RX1 104 "law") (by decide +kernel)) hA
  obtain ⟨a2, b2, r2, o2, v2, k2, t2⟩ := str_of (args := #[Value.ref b]) (k := 106) (tx := "fine") (cs := [102, 105, 110, 101]) (A := fun q : Nat => s.heap.size ≤ q) (by decide) (hs (.exactly (.string RX1 106) "java/lang/String") (by decide +kernel)) (hs (.eq (.field (.string RX1 106) "java/lang/String" "coder" "B") (.int 0)) (by decide +kernel)) (hs (.arrayOf (.field (.string RX1 106) "java/lang/String" "value" "[B") .byte) (by decide +kernel)) (hs (.eq (.length (.field (.string RX1 106) "java/lang/String" "value" "[B")) (.int 4)) (by decide +kernel)) (fun j hj => by
    match j, hj with
    | 0, _ => exact hs (.eq (.elem (.field (.string RX1 106) "java/lang/String" "value" "[B") (.int 0)) (.int 102)) (by decide +kernel)
    | 1, _ => exact hs (.eq (.elem (.field (.string RX1 106) "java/lang/String" "value" "[B") (.int 1)) (.int 105)) (by decide +kernel)
    | 2, _ => exact hs (.eq (.elem (.field (.string RX1 106) "java/lang/String" "value" "[B") (.int 2)) (.int 110)) (by decide +kernel)
    | 3, _ => exact hs (.eq (.elem (.field (.string RX1 106) "java/lang/String" "value" "[B") (.int 3)) (.int 101)) (by decide +kernel)
    | n + 4, h => exact absurd h (by simp only [List.length_cons, List.length_nil]; omega)) (ht 721 (.stringRef RX1 106 "fine") (by decide +kernel)) hA
  obtain ⟨a3, b3, r3, o3, v3, k3, t3⟩ := str_of (args := #[Value.ref b]) (k := 131) (tx := "gts") (cs := [103, 116, 115]) (A := fun q : Nat => s.heap.size ≤ q) (by decide) (hs (.exactly (.string RX1 131) "java/lang/String") (by decide +kernel)) (hs (.eq (.field (.string RX1 131) "java/lang/String" "coder" "B") (.int 0)) (by decide +kernel)) (hs (.arrayOf (.field (.string RX1 131) "java/lang/String" "value" "[B") .byte) (by decide +kernel)) (hs (.eq (.length (.field (.string RX1 131) "java/lang/String" "value" "[B")) (.int 3)) (by decide +kernel)) (fun j hj => by
    match j, hj with
    | 0, _ => exact hs (.eq (.elem (.field (.string RX1 131) "java/lang/String" "value" "[B") (.int 0)) (.int 103)) (by decide +kernel)
    | 1, _ => exact hs (.eq (.elem (.field (.string RX1 131) "java/lang/String" "value" "[B") (.int 1)) (.int 116)) (by decide +kernel)
    | 2, _ => exact hs (.eq (.elem (.field (.string RX1 131) "java/lang/String" "value" "[B") (.int 2)) (.int 115)) (by decide +kernel)
    | n + 3, h => exact absurd h (by simp only [List.length_cons, List.length_nil]; omega)) (ht 750 (.stringRef RX1 131 "gts") (by decide +kernel)) hA
  obtain ⟨a4, b4, r4, o4, v4, k4, t4⟩ := str_of (args := #[Value.ref b]) (k := 133) (tx := "sd") (cs := [115, 100]) (A := fun q : Nat => s.heap.size ≤ q) (by decide) (hs (.exactly (.string RX1 133) "java/lang/String") (by decide +kernel)) (hs (.eq (.field (.string RX1 133) "java/lang/String" "coder" "B") (.int 0)) (by decide +kernel)) (hs (.arrayOf (.field (.string RX1 133) "java/lang/String" "value" "[B") .byte) (by decide +kernel)) (hs (.eq (.length (.field (.string RX1 133) "java/lang/String" "value" "[B")) (.int 2)) (by decide +kernel)) (fun j hj => by
    match j, hj with
    | 0, _ => exact hs (.eq (.elem (.field (.string RX1 133) "java/lang/String" "value" "[B") (.int 0)) (.int 115)) (by decide +kernel)
    | 1, _ => exact hs (.eq (.elem (.field (.string RX1 133) "java/lang/String" "value" "[B") (.int 1)) (.int 100)) (by decide +kernel)
    | n + 2, h => exact absurd h (by simp only [List.length_cons, List.length_nil]; omega)) (ht 751 (.stringRef RX1 133 "sd") (by decide +kernel)) hA
  obtain ⟨a5, b5, r5, o5, v5, k5, t5⟩ := str_of (args := #[Value.ref b]) (k := 135) (tx := "lt") (cs := [108, 116]) (A := fun q : Nat => s.heap.size ≤ q) (by decide) (hs (.exactly (.string RX1 135) "java/lang/String") (by decide +kernel)) (hs (.eq (.field (.string RX1 135) "java/lang/String" "coder" "B") (.int 0)) (by decide +kernel)) (hs (.arrayOf (.field (.string RX1 135) "java/lang/String" "value" "[B") .byte) (by decide +kernel)) (hs (.eq (.length (.field (.string RX1 135) "java/lang/String" "value" "[B")) (.int 2)) (by decide +kernel)) (fun j hj => by
    match j, hj with
    | 0, _ => exact hs (.eq (.elem (.field (.string RX1 135) "java/lang/String" "value" "[B") (.int 0)) (.int 108)) (by decide +kernel)
    | 1, _ => exact hs (.eq (.elem (.field (.string RX1 135) "java/lang/String" "value" "[B") (.int 1)) (.int 116)) (by decide +kernel)
    | n + 2, h => exact absurd h (by simp only [List.length_cons, List.length_nil]; omega)) (ht 752 (.stringRef RX1 135 "lt") (by decide +kernel)) hA
  obtain ⟨x, ex⟩ : ∃ x : pX, x = (([(RX8, "ABOVE", "[I", Value.ref ab), ("java/lang/String", "COMPACT_STRINGS", "Z", Value.int 1), ("jdk/internal/util/Preconditions", "SIOOBE_FORMATTER", "Ljava/util/function/BiFunction;", va_rf o)], [("java/lang/String", "value", "[B", Value.ref b0, a0), ("java/lang/String", "coder", "B", Value.int 0, a0), ("java/lang/String", "value", "[B", Value.ref b1, a1), ("java/lang/String", "coder", "B", Value.int 0, a1), ("java/lang/String", "value", "[B", Value.ref b2, a2), ("java/lang/String", "coder", "B", Value.int 0, a2), ("java/lang/String", "value", "[B", Value.ref b3, a3), ("java/lang/String", "coder", "B", Value.int 0, a3), ("java/lang/String", "value", "[B", Value.ref b4, a4), ("java/lang/String", "coder", "B", Value.int 0, a4), ("java/lang/String", "value", "[B", Value.ref b5, a5), ("java/lang/String", "coder", "B", Value.int 0, a5)], [(FieldType.int, ab, 6, fun k => Value.int (abv k)), (FieldType.int, b, L, fun k => Value.int (xs k)), (FieldType.byte, b0, [119, 101, 97, 114].length, fun k => Value.int (nI ([119, 101, 97, 114].getD k 0))), (FieldType.byte, b1, [108, 97, 119].length, fun k => Value.int (nI ([108, 97, 119].getD k 0))), (FieldType.byte, b2, [102, 105, 110, 101].length, fun k => Value.int (nI ([102, 105, 110, 101].getD k 0))), (FieldType.byte, b3, [103, 116, 115].length, fun k => Value.int (nI ([103, 116, 115].getD k 0))), (FieldType.byte, b4, [115, 100].length, fun k => Value.int (nI ([115, 100].getD k 0))), (FieldType.byte, b5, [108, 116].length, fun k => Value.int (nI ([108, 116].getD k 0)))], [(RJ0, a0), (RJ0, a1), (RJ0, a2), (RJ0, a3), (RJ0, a4), (RJ0, a5)], [(RX1, 98, "wear", a0), (RX1, 104, "law", a1), (RX1, 106, "fine", a2), (RX1, 131, "gts", a3), (RX1, 133, "sd", a4), (RX1, 135, "lt", a5)]) : pX) := ⟨_, rfl⟩
  have hxA : XA x := ⟨ab, by rw [ex]; exact List.mem_of_getElem? (i := 0) rfl, by rw [ex]; exact List.mem_of_getElem? (i := 0) rfl⟩
  have hm : (FieldType.int, b, L, fun k => Value.int (xs k)) ∈ x.2.2.1 := by rw [ex]; exact List.mem_of_getElem? (i := 1) rfl
  have hxS : XS x := by
    rw [ex]
    refine ⟨⟨List.mem_of_getElem? (i := 1) rfl, o, List.mem_of_getElem? (i := 2) rfl⟩, ⟨a0, b0, List.mem_of_getElem? (i := 0) rfl, List.mem_of_getElem? (i := 0) rfl, List.mem_of_getElem? (i := 0) rfl, List.mem_of_getElem? (i := 1) rfl, List.mem_of_getElem? (i := 2) rfl, ?_, by decide⟩, ⟨a1, b1, List.mem_of_getElem? (i := 1) rfl, List.mem_of_getElem? (i := 1) rfl, List.mem_of_getElem? (i := 2) rfl, List.mem_of_getElem? (i := 3) rfl, List.mem_of_getElem? (i := 3) rfl, ?_, by decide⟩, ⟨a2, b2, List.mem_of_getElem? (i := 2) rfl, List.mem_of_getElem? (i := 2) rfl, List.mem_of_getElem? (i := 4) rfl, List.mem_of_getElem? (i := 5) rfl, List.mem_of_getElem? (i := 4) rfl, ?_, by decide⟩, ⟨a3, b3, List.mem_of_getElem? (i := 3) rfl, List.mem_of_getElem? (i := 3) rfl, List.mem_of_getElem? (i := 6) rfl, List.mem_of_getElem? (i := 7) rfl, List.mem_of_getElem? (i := 5) rfl, ?_, by decide⟩, ⟨a4, b4, List.mem_of_getElem? (i := 4) rfl, List.mem_of_getElem? (i := 4) rfl, List.mem_of_getElem? (i := 8) rfl, List.mem_of_getElem? (i := 9) rfl, List.mem_of_getElem? (i := 6) rfl, ?_, by decide⟩, ⟨a5, b5, List.mem_of_getElem? (i := 5) rfl, List.mem_of_getElem? (i := 5) rfl, List.mem_of_getElem? (i := 10) rfl, List.mem_of_getElem? (i := 11) rfl, List.mem_of_getElem? (i := 7) rfl, ?_, by decide⟩⟩
    · exact gd_lt [119, 101, 97, 114] (by decide)
    · exact gd_lt [108, 97, 119] (by decide)
    · exact gd_lt [102, 105, 110, 101] (by decide)
    · exact gd_lt [103, 116, 115] (by decide)
    · exact gd_lt [115, 100] (by decide)
    · exact gd_lt [108, 116] (by decide)
  have hE : Ext x (fun q : Nat => s.heap.size ≤ q) s := by
    rw [ex]
    obtain ⟨scr, hcb, hof, hkn, hsz, hval⟩ := hX
    have tX : va_T .int b L (fun k => Value.int (xs k)) (fun q : Nat => s.heap.size ≤ q) s s.heap := ⟨scr, hcb, hof, hkn, Nat.le_of_eq hsz.symm, by rw [hsz], hval, hA b hbl⟩
    refine ⟨?_, ?_, ?_, ?_, ?_, ?_, ht 397 (.fieldLinkNest RX6 24 RX8 "ABOVE" "[I" RX8) (by decide +kernel), fun k h1 h2 => ?_⟩
    · exact List.forall_mem_cons.mpr ⟨zA, List.forall_mem_cons.mpr ⟨zC, List.forall_mem_cons.mpr ⟨zP, fun _ h => absurd h List.not_mem_nil⟩⟩⟩
    · exact List.forall_mem_cons.mpr ⟨v0, List.forall_mem_cons.mpr ⟨k0, List.forall_mem_cons.mpr ⟨v1, List.forall_mem_cons.mpr ⟨k1, List.forall_mem_cons.mpr ⟨v2, List.forall_mem_cons.mpr ⟨k2, List.forall_mem_cons.mpr ⟨v3, List.forall_mem_cons.mpr ⟨k3, List.forall_mem_cons.mpr ⟨v4, List.forall_mem_cons.mpr ⟨k4, List.forall_mem_cons.mpr ⟨v5, List.forall_mem_cons.mpr ⟨k5, fun _ h => absurd h List.not_mem_nil⟩⟩⟩⟩⟩⟩⟩⟩⟩⟩⟩⟩
    · exact List.forall_mem_cons.mpr ⟨hT, List.forall_mem_cons.mpr ⟨tX, List.forall_mem_cons.mpr ⟨t0, List.forall_mem_cons.mpr ⟨t1, List.forall_mem_cons.mpr ⟨t2, List.forall_mem_cons.mpr ⟨t3, List.forall_mem_cons.mpr ⟨t4, List.forall_mem_cons.mpr ⟨t5, fun _ h => absurd h List.not_mem_nil⟩⟩⟩⟩⟩⟩⟩⟩
    · exact List.forall_mem_cons.mpr ⟨o0, List.forall_mem_cons.mpr ⟨o1, List.forall_mem_cons.mpr ⟨o2, List.forall_mem_cons.mpr ⟨o3, List.forall_mem_cons.mpr ⟨o4, List.forall_mem_cons.mpr ⟨o5, fun _ h => absurd h List.not_mem_nil⟩⟩⟩⟩⟩⟩
    · exact List.forall_mem_cons.mpr ⟨r0, List.forall_mem_cons.mpr ⟨r1, List.forall_mem_cons.mpr ⟨r2, List.forall_mem_cons.mpr ⟨r3, List.forall_mem_cons.mpr ⟨r4, List.forall_mem_cons.mpr ⟨r5, fun _ h => absurd h List.not_mem_nil⟩⟩⟩⟩⟩⟩
    · exact List.forall_mem_cons.mpr ⟨ht 98 (.methodLinkNest RX7 23 yX0_init RX8) (by decide +kernel), List.forall_mem_cons.mpr ⟨ht 116 (.methodLinkNest RX7 42 yX6_init RX8) (by decide +kernel), List.forall_mem_cons.mpr ⟨ht 188 (.methodLinkNest RX8 24 yX1_init RX8) (by decide +kernel), List.forall_mem_cons.mpr ⟨ht 194 (.methodLinkNest RX1 11 yX4_init RX8) (by decide +kernel), List.forall_mem_cons.mpr ⟨ht 241 (.methodLinkNest RX8 50 yX2_init RX8) (by decide +kernel), List.forall_mem_cons.mpr ⟨ht 259 (.methodLinkNest RX8 51 yX3_init RX8) (by decide +kernel), List.forall_mem_cons.mpr ⟨ht 264 (.methodLinkNest RX3 17 yX6_init RX8) (by decide +kernel), List.forall_mem_cons.mpr ⟨ht 266 (.methodLinkNest RX3 24 yX2_init RX8) (by decide +kernel), List.forall_mem_cons.mpr ⟨ht 366 (.methodLinkNest RX7 144 yX8_held RX8) (by decide +kernel), List.forall_mem_cons.mpr ⟨ht 458 (.methodLinkNest RX7 105 yX8_within RX8) (by decide +kernel), List.forall_mem_cons.mpr ⟨ht 546 (.methodLinkNest RX0 29 yX8_within RX8) (by decide +kernel), List.forall_mem_cons.mpr ⟨ht 662 (.methodLinkNest RX1 82 yX8_within RX8) (by decide +kernel), List.forall_mem_cons.mpr ⟨ht 885 (.methodLinkNest RX2 19 yX8_held RX8) (by decide +kernel), List.forall_mem_cons.mpr ⟨ht 927 (.methodLinkNest RX2 43 yX8_within RX8) (by decide +kernel), fun _ h => absurd h List.not_mem_nil⟩⟩⟩⟩⟩⟩⟩⟩⟩⟩⟩⟩⟩⟩
    · match k, h1, h2 with
      | 11, _, _ => exact ht 237 (.arrayOver (.object RX2)) (by decide +kernel)
      | 12, _, _ => exact ht 239 (.arrayOver (.object RX3)) (by decide +kernel)
      | 13, _, _ => exact ht 113 (.arrayOver (.object RX5)) (by decide +kernel)
      | 14, _, _ => exact ht 95 (.arrayOver (.object RX6)) (by decide +kernel)
  have hin : ∀ k, k < 10 → (Cond.instantiable (RF k) (nF k)).before #[Value.ref b] s = true := ten (ht 97 (.instantiable RX0 2) (by decide +kernel)) (ht 187 (.instantiable RX1 9) (by decide +kernel)) (ht 240 (.instantiable RX2 3) (by decide +kernel)) (ht 258 (.instantiable RX3 4) (by decide +kernel)) (ht 193 (.instantiable RX4 2) (by decide +kernel)) (ht 816 (.instantiable RX5 4) (by decide +kernel)) (ht 115 (.instantiable RX6 4) (by decide +kernel)) (ht 89 (.instantiable RX7 12) (by decide +kernel)) (ht 81 (.instantiable RX8 10) (by decide +kernel)) (ht 989 (.instantiable RX9 30) (by decide +kernel))
  have hgw : ∀ w ∈ GW, w.before #[Value.ref b] s = true := fun w h => hts w (GW_in h)
  have hkn : ∀ k : Nat, ∃ q : ClassId × (Nat → Nat), k < 10 → u_Kn s (RF k) (TF k) (nF k) q.1 q.2 := fun k => by
    by_cases h : k < 10
    · obtain ⟨cC, iS, q⟩ := u_known hgw (F_ws k h) (hin k h)
      exact ⟨(cC, iS), fun _ => q⟩
    · exact ⟨(0, fun _ => 0), fun q => absurd q h⟩
  obtain ⟨g, hg⟩ := Classical.axiomOfChoice hkn
  obtain ⟨cA, kA, comp, f1, f2, f3⟩ := Cond.arrayClass_spec (ht 111 (.arrayClass .int) (by decide +kernel))
  obtain ⟨p11, c11, n11, u11, -, x11, y11, z11⟩ := Cond.arrayOver_spec (ht 237 (.arrayOver (.object RX2)) (by decide +kernel))
  obtain ⟨p12, c12, n12, u12, -, x12, y12, z12⟩ := Cond.arrayOver_spec (ht 239 (.arrayOver (.object RX3)) (by decide +kernel))
  obtain ⟨p13, c13, n13, u13, -, x13, y13, z13⟩ := Cond.arrayOver_spec (ht 113 (.arrayOver (.object RX5)) (by decide +kernel))
  obtain ⟨p14, c14, n14, u14, -, x14, y14, z14⟩ := Cond.arrayOver_spec (ht 95 (.arrayOver (.object RX6)) (by decide +kernel))
  obtain ⟨cy, ecy⟩ : ∃ cy : Nat → ClassId, cy = fun k => if k = 10 then cA else if k = 11 then c11 else if k = 12 then c12 else if k = 13 then c13 else c14 := ⟨_, rfl⟩
  have hK : va_K (fun k => (g k).1, fun k => (g k).2) vwCl (tys cy) s := by
    refine ⟨fun k q h => ?_, fun k q h => ?_⟩
    · have h10 : k < 10 := (List.getElem?_eq_some_iff.mp h).1
      rw [F_cl k h10] at h
      cases h
      exact hg k h10
    · rw [ecy] at h
      match k, h with
      | 0, h => cases h; exact ⟨fun n z => ⟨fun k h => (by cases h), kA, f2, comp, f3⟩, f1⟩
      | 1, h => cases h; exact ⟨fun n z => ⟨fun k h => (by cases h), n11, x11, p11, y11⟩, n11, p11, x11, y11, u11, z11⟩
      | 2, h => cases h; exact ⟨fun n z => ⟨fun k h => (by cases h), n12, x12, p12, y12⟩, n12, p12, x12, y12, u12, z12⟩
      | 3, h => cases h; exact ⟨fun n z => ⟨fun k h => (by cases h), n13, x13, p13, y13⟩, n13, p13, x13, y13, u13, z13⟩
      | 4, h => cases h; exact ⟨fun n z => ⟨fun k h => (by cases h), n14, x14, p14, y14⟩, n14, p14, x14, y14, u14, z14⟩
      | n + 5, h => exact absurd (List.getElem?_eq_some_iff.mp h).1 (by show ¬ (n + 5 < 5); omega)
  have hl := lv_entry [.ref b] (n := 4) (Nat.le_of_ble_eq_true rfl)
  rw [lg_entry_eq]
  refine law_0 (x := x) (Q := fun r _ => r = 1) hxA hxS hm hL (fun _ _ => rfl) (fun _ => rfl) p l e room_1 s m #[Value.ref b] below meth c _ (fun q : Nat => s.heap.size ≤ q) (fun k => (g k).1, fun k => (g k).2) cy ⟨⟨hx, hb, hml, hown, hgw⟩, hK, hE, fun q h => h, ⟨Nat.le_of_ble_eq_true rfl, Nat.le_of_ble_eq_true rfl, Nat.le_of_ble_eq_true rfl, Nat.le_of_ble_eq_true rfl⟩, fun h => absurd (show "law" = "<init>" from h) (by decide), ?_⟩ s.heap [] 0 0 _ ⟨?_, ?_, va_S.rf⟩ (by decide) (by decide) hl
  · intro v S H locs cells slots ls pc i hd hrt hq hp hc hsl
    obtain ⟨r, ev, er⟩ := hq
    subst er
    subst ev
    rcases hrt with ⟨ei, -⟩ | ⟨-, q, -⟩ | ⟨-, r2, ty, q, -⟩
    · subst ei
      exact va_forget (fun q hq => hp.2.2.2.2 q hq) (W.widen (k := 600000) (n := 7302250) hc hsl (lw_ret hx hb hr hlocks hd))
    · cases q
    · cases r2 <;> cases q
  · exact fun k q h => by have h2 : ([] : va_W)[k]? = some q := h; simp at h2
  · exact ⟨fun i j p q h _ _ => by have h2 : ([] : va_W)[i]? = some p := h; simp at h2, fun k q h => by have h2 : ([] : va_W)[k]? = some q := h; simp at h2⟩
set_option maxHeartbeats 4000000 in
theorem lw_walk (l : Launch) (hflags : l.flags = flags0) (b : Addr) (xs : List Int32) : MetFree l x (headSpec (Jvm.Cond.code x code maxLocals ret :: tables_1) room_1) (lw_P b xs) (fun _ _ _ _ _ => True) lw_Q := by
  refine MetFree.of_bodyS (code := code) (maxLocals := maxLocals) (ret := ret) (by decide) ?_ ?_
  · intro args s m h hn
    obtain ⟨meth, c, h1, h2, h3, h4, h5, h6, -, -⟩ := Cond.code_spec hn (atoms_spec (ws := Jvm.Cond.code x code maxLocals ret :: tables_1) h _ List.mem_cons_self)
    exact ⟨meth, c, h1, h2, h3, h4, h5, h6⟩
  · intro p e s m args below meth c s₁ B hml0 hP _
    obtain ⟨rfl, hx, hbd, hgv⟩ := hP
    obtain ⟨scr, harrAt, hlist, hof, hsmall⟩ := hx
    obtain ⟨hcb, hkn, -, -⟩ := State.arrayAt?_spec harrAt
    have hown : s.vm.findClass R_law = some m.cls := findClass_of_methodNamed B.named
    have hts0 : ∀ c ∈ (Jvm.Cond.code x code maxLocals ret :: tables_1), c.before #[Value.ref b] s = true := atoms_spec (ws := Jvm.Cond.code x code maxLocals ret :: tables_1) B.pre
    have hts : ∀ w ∈ lw_tbl, w.before #[Value.ref b] s = true := k2_hts_sels lw_privs (fun w hw => hts0 w (List.mem_cons_of_mem _ hw)) lw_privs_ok
    have hml : c.maxLocals = 4 := B.maxLocals_eq (hts0 _ List.mem_cons_self)
    have X₀ : Stand p l e room_1 s m #[Value.ref b] below meth c s₁ [] 0 0 := Stand.of_body B
    have hh0 : s₁.heap = s.heap := by rw [B.state]; rfl
    have hsz : scr.slots.size = xs.length := by rw [← Array.length_toList, hlist, List.length_map]
    have hval : ∀ j : Nat, j < xs.length → scr.slots[j]? = some (.int (xs.getD j 0)) := fun j hj => by
      rw [← Array.getElem?_toList, hlist]
      simp [hj]
    have hbl : b < s.heap.size := (Array.getElem?_eq_some_iff.mp hcb).1
    have hX : va_X b xs.length (fun j => xs.getD j 0) s s.heap := ⟨scr, hcb, hof, hkn, hsz, hval⟩
    have K : W p l e room_1 s m #[Value.ref b] below meth c s₁.heap [] 0 0 (lw_Z below #[Value.ref b] s) (entryFrame m ([Value.ref b] : List Value).toArray 4) := by
      rw [hh0]
      exact whole_start l hflags hbd ⟨B.exec, B.bytes, B.returns, hml, hown, hts, hX, hbl, B.notSynchronized, hgv⟩
    obtain ⟨t, a1, o, b1, b2, b3⟩ := K s₁ rfl X₀
    exact ⟨t, o, a1, b1, b2, b3⟩
theorem lw_pre_spec {args : Array Value} {s : State} (h : (Jvm.Cond.and given_1 narrow_1).before args s = true) (hr : rest_1_c.before args s = true) : ∃ (b : Addr) (xs : List Int32), lw_P b xs args s := by
  have hs := flat_of_before _ h
  have hq := flat_of_before _ hr
  have hc : (Cond.count 1).before args s = true := hs _ (by decide +kernel)
  have harr : (Cond.arrayOf (.arg 0) .int).before args s = true := hs _ (by decide +kernel)
  have hle : (Cond.le (.length (.arg 0)) (.int 384)).before args s = true := hs _ (by decide +kernel)
  have hlen : (Cond.isInt (.length (.arg 0))).before args s = true := hq _ (by decide +kernel)
  have hall : (Cond.all (.arg 0) (.isInt (.elem (.arg 0) (.index 0)))).before args s = true := hq _ (by decide +kernel)
  obtain ⟨b, xs, hb, hx⟩ := State.ints_of_pre rfl harr hlen hall
  have hsm : xs.length < 2 ^ 31 := hx.choose_spec.2.2.2
  have hev : (Term.length (.arg 0)).eval args s none [] s = some (.int xs.length.toInt32) := hx.length_eval hb
  have hv := Cond.le_ints hev (show (Term.int 384).eval args s none [] s = some (.int 384) from rfl)
  have hd : xs.length.toInt32 ≤ 384 := by
    simpa [Cond.before, Cond.holds, hv] using hle
  have hN : xs.length ≤ 384 := (Int32.ofNat_le_ofNat hsm (by decide)).mp (show Int32.ofNat xs.length ≤ Int32.ofNat 384 from hd)
  exact ⟨b, xs, Cond.one_arg hc (show args[0]? = some (.ref b) from hb), hx, hN, h⟩
theorem lw_comes (l : Launch) (hflags : l.flags = flags0) : Comes l x (Jvm.Cond.code x code maxLocals ret :: tables_1) room_1 (fun tb e args s => Calls_1 tb e args s ∧ rest_1 tb e args s ∧ Pre_1 tb e args s)
    (fun _ _ args s o t => lw_Q args s o t) := by
  intro p e ha hc hk s m args below hf hfit hheap happ hpre
  obtain ⟨b, xs, hP⟩ := lw_pre_spec hpre.2.2 hpre.2.1
  obtain ⟨k, o, h1, h2, h3, hQ⟩ := lw_walk l hflags b xs p e ha hc hk s m args below hf ((Spec.applies_iff_loose hf).mp happ).1 hP trivial
  exact ⟨k, o, h1, h2, h3, hQ⟩
theorem lw_frame {s t : State} {o : Outcome} {args : Array Value} (h : Framed s o t [] 600000 7302250) :
    Framed s o t (fieldLocs frame_1_writes args s ++ arrayLocs frame_1_arrays args s ++ staticLocs frame_1_statics s) 600000 7302250 := h
theorem lw_limb (L : Cond) (hL : ∀ (args : Array Value) (s t : State), L.after args s (.returned (some (.int 1))) t = true) :
    ArmFor flags0 classFile x code maxLocals ret World_1 tables_1 room_1 Calls_1 rest_1 Pre_1
      (fun tb e a s o t => postC L tb e a s o t ∧ Framed s o t (fieldLocs frame_1_writes a s ++ arrayLocs frame_1_arrays a s ++ staticLocs frame_1_statics s) 600000 7302250) := by
  intro l hflags _ _ p e ha hc hk s m args below hf hfit hheap happ hpre
  obtain ⟨k, o, h1, h2, h3, rfl, hF⟩ := lw_comes l hflags p e ha hc hk s m args below hf hfit hheap happ hpre
  exact ⟨k, _, h1, h2, h3, hL args s _, lw_frame hF⟩
theorem i_vc : Claimed_1_1 ∧ Claimed_1_2 := ⟨lw_limb limb_1_1 (fun args s t => by simp [limb_1_1, Cond.after, Cond.holds, Cond.value]), lw_limb limb_1_2 (fun args s t => Cond.after_iff.mpr (by
  first | (rw [show limb_1_2 = Cond.eq .result (.int 1) from rfl, Cond.eq_ints (x := 1) (y := 1) rfl rfl]; simp; done) | (simp [limb_1_2, Cond.value, Term.eval]; done)))⟩

