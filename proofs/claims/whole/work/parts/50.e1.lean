/-! ===== Strings: the JDK's own methods over constants ===== -/
section I2B
variable {M : pM} {pc : Nat} {x : pX} {d : Nat} {Q : Option Value → pS → Prop} {b : Nat × Nat} {ls : List (Nat × Value)} {st : List Value} {S : pS}
def tq_i2b : tr := fun _ _ b ls st S K => match st with
  | .int v :: r => K b ls (.int v.toInt8.toInt32 :: r) S
  | _ => False
theorem J_i2b (hd : decode (mB M) pc = .ok (.i2b, 1)) : J M pc (pc + 1) tq_i2b := by
  intro x d Q b ls st S K hK h
  unfold tq_i2b at h
  split at h
  · have k := hK _ _ _ _ h
    intro p l e R s m args below meth c Z A D cy C H locs cells slots la hP h1 h2 hl
    exact lv_i2b C.1.1 C.1.2.1 hd rfl (k p l e R s m args below meth c Z A D cy C H locs cells slots la hP h1 h2 hl)
  · exact h.elim
theorem V_i2b {v : Int32} (hd : decode (mB M) pc = .ok (.i2b, 1)) (k : V x d M Q b (pc + 1) ls (.int v.toInt8.toInt32 :: st) S) : V x d M Q b pc ls (.int v :: st) S := (J_i2b hd).v k
end I2B
/-- the statics that Strings ask -/
def XJ (x : pX) : Prop := ("java/lang/String", "COMPACT_STRINGS", "Z", Value.int 1) ∈ x.1 ∧ ∃ o : Option Nat, ("jdk/internal/util/Preconditions", "SIOOBE_FORMATTER", "Ljava/util/function/BiFunction;", va_rf o) ∈ x.1
/-- a String of small signs -/
def STR (x : pX) (a b : Nat) (cs : List Nat) : Prop := (RJ0, a) ∈ x.2.2.2.1 ∧ ("java/lang/String", "value", "[B", Value.ref b, a) ∈ x.2.1 ∧ ("java/lang/String", "coder", "B", Value.int 0, a) ∈ x.2.1 ∧ (FieldType.byte, b, cs.length, fun k => Value.int (nI (cs.getD k 0))) ∈ x.2.2.1 ∧ (∀ k, cs.getD k 0 < 128) ∧ cs.length < 100
theorem shr0 (v : Int32) : v >>> ((0 : Int32) &&& 31) = v := by
  apply Int32.toBitVec_inj.mp
  rw [Int32.toBitVec_shiftRight, show ((0 : Int32) &&& 31).toBitVec.smod 32 = 0#32 from by decide]
  simp [BitVec.sshiftRight']
theorem chr_i : ∀ c, c < 256 → ((nI c : Int32).toUInt32 % 65536).toInt32 = nI c := by decide +kernel
theorem chr_c : ∀ c, c < 128 → ((nI c &&& 255 : Int32).toUInt32 % 65536).toInt32 = nI c := by decide +kernel
theorem chr_n (c : Nat) (h : c < 128) : narrow .char (.int (nI c)) = .int (nI c) := (pk_charN (by omega)).1
theorem byt_c : ∀ c, c < 128 → (nI c).toInt8.toInt32 = nI c := by decide +kernel
set_option maxRecDepth 100000 in
set_option maxHeartbeats 1000000 in
theorem j_coder {x : pX} {d : Nat} {S : pS} {Q : Int32 → pS → Prop} {a bb : Nat} {cs : List Nat} (hj : XJ x) (hs : STR x a bb cs) (h : Q 0 S) : PI x (d + 1) M_J0_coder_7d493 [.ref a] S Q := by
  refine PM_of (by decide +kernel) (Nat.le_of_ble_eq_true rfl) ?_
  show V x (d + 1) M_J0_coder_7d493 (qi Q) (0, 0) 0 [(0, .ref a)] [] S
  refine V_gs (pc := 0) "java/lang/String" "COMPACT_STRINGS" "Z" dJ0_coder_7d493_0 (FX_J0_38 rfl) hj.1 ?_
  refine V_eq (pc := 3) (t := 13) dJ0_coder_7d493_3 (by decide) (fun h => absurd h (by decide)) (fun _ => ?_)
  refine V_aln (pc := 6) dJ0_coder_7d493_6 rfl rfl ?_
  refine V_gx (pc := 7) "java/lang/String" "coder" "B" dJ0_coder_7d493_7 (FX_J0_15 rfl) hs.2.2.1 ?_
  refine V_goto (pc := 10) (t := 14) dJ0_coder_7d493_10 (by decide) ?_
  refine V_iret (pc := 14) dJ0_coder_7d493_14 rfl rfl ?_
  exact h
set_option maxRecDepth 100000 in
set_option maxHeartbeats 1000000 in
theorem j_isLatin1 {x : pX} {d : Nat} {S : pS} {Q : Int32 → pS → Prop} {a bb : Nat} {cs : List Nat} (hj : XJ x) (hs : STR x a bb cs) (h : Q 1 S) : PI x (d + 1) M_J0_isLatin1_aae02 [.ref a] S Q := by
  refine PM_of (by decide +kernel) (Nat.le_of_ble_eq_true rfl) ?_
  show V x (d + 1) M_J0_isLatin1_aae02 (qi Q) (0, 0) 0 [(0, .ref a)] [] S
  refine V_gs (pc := 0) "java/lang/String" "COMPACT_STRINGS" "Z" dJ0_isLatin1_aae02_0 (FX_J0_38 rfl) hj.1 ?_
  refine V_eq (pc := 3) (t := 17) dJ0_isLatin1_aae02_3 (by decide) (fun h => absurd h (by decide)) (fun _ => ?_)
  refine V_aln (pc := 6) dJ0_isLatin1_aae02_6 rfl rfl ?_
  refine V_gx (pc := 7) "java/lang/String" "coder" "B" dJ0_isLatin1_aae02_7 (FX_J0_15 rfl) hs.2.2.1 ?_
  refine V_ne (pc := 10) (t := 17) dJ0_isLatin1_aae02_10 (by decide) (fun h => absurd h (by decide)) (fun _ => ?_)
  refine V_iconst (pc := 13) (v := 1) dJ0_isLatin1_aae02_13 (by decide) ?_
  refine V_goto (pc := 14) (t := 18) dJ0_isLatin1_aae02_14 (by decide) ?_
  refine V_iret (pc := 18) dJ0_isLatin1_aae02_18 rfl rfl ?_
  exact h
set_option maxRecDepth 100000 in
set_option maxHeartbeats 1000000 in
theorem j_length {x : pX} {d : Nat} {S : pS} {Q : Int32 → pS → Prop} {a bb : Nat} {cs : List Nat} (hj : XJ x) (hs : STR x a bb cs) (h : Q (nI cs.length) S) : PI x (d + 2) M_J0_length_8abf5 [.ref a] S Q := by
  refine PM_of (by decide +kernel) (Nat.le_of_ble_eq_true rfl) ?_
  show V x (d + 2) M_J0_length_8abf5 (qi Q) (0, 0) 0 [(0, .ref a)] [] S
  refine V_aln (pc := 0) dJ0_length_8abf5_0 rfl rfl ?_
  refine V_gx (pc := 1) "java/lang/String" "value" "[B" dJ0_length_8abf5_1 (FX_J0_9 rfl) hs.2.1 ?_
  refine V_lenx (pc := 4) dJ0_length_8abf5_4 hs.2.2.2.1 ?_
  refine V_aln (pc := 5) dJ0_length_8abf5_5 rfl rfl ?_
  refine V_cXi0 (pc := 6) (jc_J0_335 dJ0_length_8abf5_6 rfl) rfl rfl (Nat.le_of_ble_eq_true rfl) hs.1 ?_
  refine j_coder hj hs ?_
  refine V_ishr (pc := 9) dJ0_length_8abf5_9 ?_
  refine V_iret (pc := 10) dJ0_length_8abf5_10 rfl rfl ?_
  rw [shr0]
  exact h
set_option maxRecDepth 100000 in
set_option maxHeartbeats 1000000 in
theorem j_chk_r {x : pX} {d : Nat} {S : pS} {Q : Int32 → pS → Prop} {i n fo : Nat} (hi : i < n) (hn : n < 100) (h : Q (nI i) S) : PI x (d + 1) M_J3_checkIndex_8e157 [.int (nI i), .int (nI n), .ref fo] S Q := by
  refine PM_of (by decide +kernel) (Nat.le_of_ble_eq_true rfl) ?_
  show V x (d + 1) M_J3_checkIndex_8e157 (qi Q) (0, 0) 0 [(0, .int (nI i)), (1, .int (nI n)), (2, .ref fo)] [] S
  refine V_iln (pc := 0) dJ3_checkIndex_8e157_0 rfl rfl ?_
  refine V_lt (pc := 1) (t := 9) dJ3_checkIndex_8e157_1 (by decide) (fun h1 => ?_) (fun h1 => ?_)
  · exact absurd h1 (nI_pos (by omega))
  · refine V_iln (pc := 4) dJ3_checkIndex_8e157_4 rfl rfl ?_
    refine V_iln (pc := 5) dJ3_checkIndex_8e157_5 rfl rfl ?_
    refine V_clt (pc := 6) (t := 16) dJ3_checkIndex_8e157_6 (by decide) (fun h6 => ?_) (fun h6 => ?_)
    · refine V_iln (pc := 16) dJ3_checkIndex_8e157_16 rfl rfl ?_
      refine V_iret (pc := 17) dJ3_checkIndex_8e157_17 rfl rfl ?_
      exact h
    · exact absurd (Int32.not_le.mp (nI_ge hi (by omega))) h6
set_option maxRecDepth 100000 in
set_option maxHeartbeats 1000000 in
theorem j_chk_n {x : pX} {d : Nat} {S : pS} {Q : Int32 → pS → Prop} {i n : Nat} (hi : i < n) (hn : n < 100) (h : Q (nI i) S) : PI x (d + 1) M_J3_checkIndex_8e157 [.int (nI i), .int (nI n), .null] S Q := by
  refine PM_of (by decide +kernel) (Nat.le_of_ble_eq_true rfl) ?_
  show V x (d + 1) M_J3_checkIndex_8e157 (qi Q) (0, 0) 0 [(0, .int (nI i)), (1, .int (nI n)), (2, .null)] [] S
  refine V_iln (pc := 0) dJ3_checkIndex_8e157_0 rfl rfl ?_
  refine V_lt (pc := 1) (t := 9) dJ3_checkIndex_8e157_1 (by decide) (fun h1 => ?_) (fun h1 => ?_)
  · exact absurd h1 (nI_pos (by omega))
  · refine V_iln (pc := 4) dJ3_checkIndex_8e157_4 rfl rfl ?_
    refine V_iln (pc := 5) dJ3_checkIndex_8e157_5 rfl rfl ?_
    refine V_clt (pc := 6) (t := 16) dJ3_checkIndex_8e157_6 (by decide) (fun h6 => ?_) (fun h6 => ?_)
    · refine V_iln (pc := 16) dJ3_checkIndex_8e157_16 rfl rfl ?_
      refine V_iret (pc := 17) dJ3_checkIndex_8e157_17 rfl rfl ?_
      exact h
    · exact absurd (Int32.not_le.mp (nI_ge hi (by omega))) h6
set_option maxRecDepth 100000 in
set_option maxHeartbeats 1000000 in
theorem j_checkIndex {x : pX} {d : Nat} {S : pS} {Q : pS → Prop} (hj : XJ x) {i n : Nat} (hi : i < n) (hn : n < 100) (h : Q S) : PV x (d + 2) M_J0_checkIndex_df160 [.int (nI i), .int (nI n)] S Q := by
  obtain ⟨o, ho⟩ := hj.2
  refine PM_of (by decide +kernel) (Nat.le_of_ble_eq_true rfl) ?_
  show V x (d + 2) M_J0_checkIndex_df160 (qv Q) (0, 0) 0 [(0, .int (nI i)), (1, .int (nI n))] [] S
  cases o with
  | none =>
    refine V_iln (pc := 0) dJ0_checkIndex_df160_0 rfl rfl ?_
    refine V_iln (pc := 1) dJ0_checkIndex_df160_1 rfl rfl ?_
    refine V_gs (pc := 2) "jdk/internal/util/Preconditions" "SIOOBE_FORMATTER" "Ljava/util/function/BiFunction;" dJ0_checkIndex_df160_2 (FX_J0_1053 rfl) ho ?_
    refine V_cSi0 (pc := 5) (jc_J0_1059 dJ0_checkIndex_df160_5 rfl) rfl rfl (Nat.le_of_ble_eq_true rfl) ?_
    refine j_chk_n hi hn ?_
    refine V_pop (pc := 8) dJ0_checkIndex_df160_8 rfl ?_
    refine V_ret (pc := 9) dJ0_checkIndex_df160_9 rfl ?_
    exact h
  | some fo =>
    refine V_iln (pc := 0) dJ0_checkIndex_df160_0 rfl rfl ?_
    refine V_iln (pc := 1) dJ0_checkIndex_df160_1 rfl rfl ?_
    refine V_gs (pc := 2) "jdk/internal/util/Preconditions" "SIOOBE_FORMATTER" "Ljava/util/function/BiFunction;" dJ0_checkIndex_df160_2 (FX_J0_1053 rfl) ho ?_
    refine V_cSi0 (pc := 5) (jc_J0_1059 dJ0_checkIndex_df160_5 rfl) rfl rfl (Nat.le_of_ble_eq_true rfl) ?_
    refine j_chk_r hi hn ?_
    refine V_pop (pc := 8) dJ0_checkIndex_df160_8 rfl ?_
    refine V_ret (pc := 9) dJ0_checkIndex_df160_9 rfl ?_
    exact h
set_option maxRecDepth 100000 in
set_option maxHeartbeats 1000000 in
theorem j_charAt1 {x : pX} {d : Nat} {S : pS} {Q : Int32 → pS → Prop} {a bb : Nat} {cs : List Nat} (hj : XJ x) (hs : STR x a bb cs) {k : Nat} (hk : k < cs.length) (h : Q (nI (cs.getD k 0)) S) : PI x (d + 3) M_J1_charAt_3b067 [.ref bb, .int (nI k)] S Q := by
  refine PM_of (by decide +kernel) (Nat.le_of_ble_eq_true rfl) ?_
  show V x (d + 3) M_J1_charAt_3b067 (qi Q) (0, 0) 0 [(0, .ref bb), (1, .int (nI k))] [] S
  refine V_iln (pc := 0) dJ1_charAt_3b067_0 rfl rfl ?_
  refine V_aln (pc := 1) dJ1_charAt_3b067_1 rfl rfl ?_
  refine V_lenx (pc := 2) dJ1_charAt_3b067_2 hs.2.2.2.1 ?_
  refine V_cSv0 (pc := 3) (jc_J1_9 dJ1_charAt_3b067_3 rfl) rfl rfl (Nat.le_of_ble_eq_true rfl) ?_
  refine j_checkIndex hj hk hs.2.2.2.2.2 ?_
  refine V_aln (pc := 6) dJ1_charAt_3b067_6 rfl rfl ?_
  refine V_iln (pc := 7) dJ1_charAt_3b067_7 rfl rfl ?_
  refine V_bax (pc := 8) k dJ1_charAt_3b067_8 hs.2.2.2.1 (by have := hs.2.2.2.2.2; omega) rfl hk ?_
  refine V_sipush (pc := 9) (v := 255) dJ1_charAt_3b067_9 (by decide) ?_
  refine V_iand (pc := 12) dJ1_charAt_3b067_12 ?_
  refine V_i2c (pc := 13) dJ1_charAt_3b067_13 ?_
  rw [chr_c _ (hs.2.2.2.2.1 k)]
  refine V_iret (pc := 14) dJ1_charAt_3b067_14 rfl (chr_n _ (hs.2.2.2.2.1 k)) ?_
  exact h
set_option maxRecDepth 100000 in
set_option maxHeartbeats 1000000 in
theorem j_charAt {x : pX} {d : Nat} {S : pS} {Q : Int32 → pS → Prop} {a bb : Nat} {cs : List Nat} (hj : XJ x) (hs : STR x a bb cs) {k : Nat} (hk : k < cs.length) (h : Q (nI (cs.getD k 0)) S) : PI x (d + 5) M_J0_charAt_5068e [.ref a, .int (nI k)] S Q := by
  refine PM_of (by decide +kernel) (Nat.le_of_ble_eq_true rfl) ?_
  show V x (d + 5) M_J0_charAt_5068e (qi Q) (0, 0) 0 [(0, .ref a), (1, .int (nI k))] [] S
  refine V_aln (pc := 0) dJ0_charAt_5068e_0 rfl rfl ?_
  refine V_cXi0 (pc := 1) (jc_J0_492 dJ0_charAt_5068e_1 rfl) rfl rfl (Nat.le_of_ble_eq_true rfl) hs.1 ?_
  refine j_isLatin1 hj hs ?_
  refine V_eq (pc := 4) (t := 16) dJ0_charAt_5068e_4 (by decide) (fun h => absurd h (by decide)) (fun _ => ?_)
  refine V_aln (pc := 7) dJ0_charAt_5068e_7 rfl rfl ?_
  refine V_gx (pc := 8) "java/lang/String" "value" "[B" dJ0_charAt_5068e_8 (FX_J0_9 rfl) hs.2.1 ?_
  refine V_iln (pc := 11) dJ0_charAt_5068e_11 rfl rfl ?_
  refine V_cSi0 (pc := 12) (jc_J0_495 dJ0_charAt_5068e_12 rfl) rfl rfl (Nat.le_of_ble_eq_true rfl) ?_
  refine j_charAt1 hj hs hk ?_
  refine V_iret (pc := 15) dJ0_charAt_5068e_15 rfl (chr_n _ (hs.2.2.2.2.1 k)) ?_
  exact h
/-- the place of a sign from one on, among so many; none: all -/
def ixc (cs : List Nat) (c : Nat) : Nat → Nat → Option Nat
  | 0, _ => none
  | f + 1, k => if cs.getD k 0 = c then some k else ixc cs c f (k + 1)
set_option maxRecDepth 100000 in
set_option maxHeartbeats 1000000 in
theorem j_ixc_L {x : pX} {d : Nat} {S : pS} {b : Nat × Nat} {Q : Int32 → pS → Prop} {a bb : Nat} {cs : List Nat} (hj : XJ x) (hs : STR x a bb cs) {c0 : Nat} {v1 v2 : Int32} {r : Option Nat} (hc : c0 < 128) (h : Q (bi r) S) : ∀ (c k : Nat), k + c = cs.length → ixc cs c0 c k = r → V x (d + 1) M_J1_indexOfChar_4cfef (qi Q) b 7 [(0, .ref bb), (1, .int v1), (2, .int v2), (3, .int (nI (cs.length))), (4, .int (nI c0)), (5, .int (nI k))] [] S := by
  intro c
  induction c with
  | zero =>
    intro k hk hr
    refine V_il (pc := 7) dJ1_indexOfChar_4cfef_7 rfl ?_
    refine V_iln (pc := 9) dJ1_indexOfChar_4cfef_9 rfl rfl ?_
    refine V_cge (pc := 10) (t := 31) dJ1_indexOfChar_4cfef_10 (by decide) (fun h10 => ?_) (fun h10 => ?_)
    · refine V_iconst (pc := 31) (v := (-1)) dJ1_indexOfChar_4cfef_31 (by decide) ?_
      refine V_iret (pc := 32) dJ1_indexOfChar_4cfef_32 rfl rfl ?_
      subst hr
      exact h
    · exact absurd (nI_le (by omega) (by have := hs.2.2.2.2.2; omega)) h10
  | succ c ih =>
    intro k hk hr
    refine V_il (pc := 7) dJ1_indexOfChar_4cfef_7 rfl ?_
    refine V_iln (pc := 9) dJ1_indexOfChar_4cfef_9 rfl rfl ?_
    refine V_cge (pc := 10) (t := 31) dJ1_indexOfChar_4cfef_10 (by decide) (fun h10 => ?_) (fun h10 => ?_)
    · exact absurd h10 (nI_ge (by omega) (by have := hs.2.2.2.2.2; omega))
    · refine V_aln (pc := 13) dJ1_indexOfChar_4cfef_13 rfl rfl ?_
      refine V_il (pc := 14) dJ1_indexOfChar_4cfef_14 rfl ?_
      refine V_bax (pc := 16) k dJ1_indexOfChar_4cfef_16 hs.2.2.2.1 (by have := hs.2.2.2.2.2; omega) rfl (by omega) ?_
      refine V_il (pc := 17) dJ1_indexOfChar_4cfef_17 rfl ?_
      refine V_cne (pc := 19) (t := 25) dJ1_indexOfChar_4cfef_19 (by decide) (fun h19 => ?_) (fun h19 => ?_)
      · have e0 : ¬ cs.getD k 0 = c0 := fun q => h19 (by rw [q])
        have e1 : ixc cs c0 (c + 1) k = ixc cs c0 c (k + 1) := by
          show (if cs.getD k 0 = c0 then some k else _) = _
          rw [if_neg e0]
        rw [e1] at hr
        refine V_inc (pc := 25) (fun y => [(0, .ref bb), (1, .int v1), (2, .int v2), (3, .int (nI (cs.length))), (4, .int (nI c0)), (5, .int y)]) (w := 1) dJ1_indexOfChar_4cfef_25 (by decide) (by decide) rfl (fun _ => rfl) (fun y25 ey25 => ?_)
        obtain rfl : y25 = nI (k + 1) := by rw [ey25]; exact nI_1 _
        refine V_goto (pc := 28) (t := 7) dJ1_indexOfChar_4cfef_28 (by decide) ?_
        exact ih (k + 1) (by omega) hr
      · have e0 : cs.getD k 0 = c0 := (nI_eq (by have := hs.2.2.2.2.1 k; omega) (by omega)).mp h19
        have e1 : ixc cs c0 (c + 1) k = some k := by
          show (if cs.getD k 0 = c0 then some k else _) = _
          rw [if_pos e0]
        rw [e1] at hr
        subst hr
        refine V_il (pc := 22) dJ1_indexOfChar_4cfef_22 rfl ?_
        refine V_iret (pc := 24) dJ1_indexOfChar_4cfef_24 rfl rfl ?_
        exact h
set_option maxRecDepth 100000 in
set_option maxHeartbeats 1000000 in
theorem j_ixc {x : pX} {d : Nat} {S : pS} {Q : Int32 → pS → Prop} {a bb : Nat} {cs : List Nat} (hj : XJ x) (hs : STR x a bb cs) {c0 : Nat} (hc : c0 < 128) (h : Q (bi (ixc cs c0 cs.length 0)) S) : PI x (d + 1) M_J1_indexOfChar_4cfef [.ref bb, .int (nI c0), .int (nI 0), .int (nI (cs.length))] S Q := by
  refine PM_of (by decide +kernel) (Nat.le_of_ble_eq_true rfl) ?_
  show V x (d + 1) M_J1_indexOfChar_4cfef (qi Q) (0, 0) 0 [(0, .ref bb), (1, .int (nI c0)), (2, .int (nI 0)), (3, .int (nI (cs.length)))] [] S
  refine V_iln (pc := 0) dJ1_indexOfChar_4cfef_0 rfl rfl ?_
  refine V_i2b (pc := 1) dJ1_indexOfChar_4cfef_1 ?_
  refine V_is (pc := 2) (fun y => [(0, .ref bb), (1, .int (nI c0)), (2, .int (nI 0)), (3, .int (nI (cs.length))), (4, .int y)]) dJ1_indexOfChar_4cfef_2 (by decide) (fun _ => rfl) (fun y2 ey2 => ?_)
  obtain rfl : y2 = nI c0 := by rw [ey2]; exact byt_c _ hc
  refine V_iln (pc := 4) dJ1_indexOfChar_4cfef_4 rfl rfl ?_
  refine V_is (pc := 5) (fun y => [(0, .ref bb), (1, .int (nI c0)), (2, .int (nI 0)), (3, .int (nI (cs.length))), (4, .int (nI c0)), (5, .int y)]) dJ1_indexOfChar_4cfef_5 (by decide) (fun _ => rfl) (fun y5 ey5 => ?_)
  obtain rfl : y5 = nI 0 := ey5
  exact j_ixc_L hj hs hc h cs.length 0 (by omega) rfl
set_option maxRecDepth 100000 in
set_option maxHeartbeats 1000000 in
theorem j_canEncode {x : pX} {d : Nat} {S : pS} {Q : Int32 → pS → Prop} {c0 : Nat} (hc : c0 < 256) (h : Q 1 S) : PI x (d + 1) M_J1_canEncode_9a6ad [.int (nI c0)] S Q := by
  refine PM_of (by decide +kernel) (Nat.le_of_ble_eq_true rfl) ?_
  show V x (d + 1) M_J1_canEncode_9a6ad (qi Q) (0, 0) 0 [(0, .int (nI c0))] [] S
  refine V_iln (pc := 0) dJ1_canEncode_9a6ad_0 rfl rfl ?_
  refine V_lt (pc := 1) (t := 15) dJ1_canEncode_9a6ad_1 (by decide) (fun h1 => ?_) (fun h1 => ?_)
  · exact absurd h1 (nI_pos (by omega))
  · refine V_iln (pc := 4) dJ1_canEncode_9a6ad_4 rfl rfl ?_
    refine V_sipush (pc := 5) (v := 255) dJ1_canEncode_9a6ad_5 (by decide) ?_
    refine V_cgt (pc := 8) (t := 15) dJ1_canEncode_9a6ad_8 (by decide) (fun h8 => ?_) (fun h8 => ?_)
    · exact absurd h8 (by rw [show (255 : Int32) = nI 255 from rfl]; exact Int32.not_lt.mpr (nI_le (by omega) (by decide)))
    · refine V_iconst (pc := 11) (v := 1) dJ1_canEncode_9a6ad_11 (by decide) ?_
      refine V_goto (pc := 12) (t := 16) dJ1_canEncode_9a6ad_12 (by decide) ?_
      refine V_iret (pc := 16) dJ1_canEncode_9a6ad_16 rfl rfl ?_
      exact h
set_option maxRecDepth 100000 in
set_option maxHeartbeats 1000000 in
theorem j_indexOf1 {x : pX} {d : Nat} {S : pS} {Q : Int32 → pS → Prop} {a bb : Nat} {cs : List Nat} (hj : XJ x) (hs : STR x a bb cs) {c0 : Nat} (hc : c0 < 128) (hl : 0 < cs.length) (h : Q (bi (ixc cs c0 cs.length 0)) S) : PI x (d + 2) M_J1_indexOf_4cfef [.ref bb, .int (nI c0), .int (nI 0), .int (nI (cs.length))] S Q := by
  refine PM_of (by decide +kernel) (Nat.le_of_ble_eq_true rfl) ?_
  show V x (d + 2) M_J1_indexOf_4cfef (qi Q) (0, 0) 0 [(0, .ref bb), (1, .int (nI c0)), (2, .int (nI 0)), (3, .int (nI (cs.length)))] [] S
  refine V_iln (pc := 0) dJ1_indexOf_4cfef_0 rfl rfl ?_
  refine V_cSi0 (pc := 1) (jc_J1_88 dJ1_indexOf_4cfef_1 rfl) rfl rfl (Nat.le_of_ble_eq_true rfl) ?_
  refine j_canEncode (by omega) ?_
  refine V_ne (pc := 4) (t := 9) dJ1_indexOf_4cfef_4 (by decide) (fun _ => ?_) (fun h => absurd h (by decide))
  refine V_iln (pc := 9) dJ1_indexOf_4cfef_9 rfl rfl ?_
  refine V_iconst (pc := 10) (v := 0) dJ1_indexOf_4cfef_10 (by decide) ?_
  refine V_max (pc := 11) (jm_J1_92 dJ1_indexOf_4cfef_11 rfl) (by omega) (Nat.le_of_ble_eq_true rfl) ?_
  refine V_isn (pc := 14) (fun y => [(0, .ref bb), (1, .int (nI c0)), (2, .int y), (3, .int (nI (cs.length)))]) dJ1_indexOf_4cfef_14 rfl (by decide) (fun _ => rfl) (fun y14 ey14 => ?_)
  obtain rfl : y14 = nI 0 := by rw [ey14]; rfl
  refine V_iln (pc := 15) dJ1_indexOf_4cfef_15 rfl rfl ?_
  refine V_aln (pc := 16) dJ1_indexOf_4cfef_16 rfl rfl ?_
  refine V_lenx (pc := 17) dJ1_indexOf_4cfef_17 hs.2.2.2.1 ?_
  refine V_min (pc := 18) (jm_J1_38 dJ1_indexOf_4cfef_18 rfl) (by omega) (Nat.le_of_ble_eq_true rfl) ?_
  refine V_isn (pc := 21) (fun y => [(0, .ref bb), (1, .int (nI c0)), (2, .int (nI 0)), (3, .int y)]) dJ1_indexOf_4cfef_21 rfl (by decide) (fun _ => rfl) (fun y21 ey21 => ?_)
  obtain rfl : y21 = nI cs.length := by rw [ey21]; rw [if_neg (by rw [Int32.not_lt]; exact nI_le (Nat.le_refl _) (by have := hs.2.2.2.2.2; omega))]
  refine V_iln (pc := 22) dJ1_indexOf_4cfef_22 rfl rfl ?_
  refine V_iln (pc := 23) dJ1_indexOf_4cfef_23 rfl rfl ?_
  refine V_clt (pc := 24) (t := 29) dJ1_indexOf_4cfef_24 (by decide) (fun h24 => ?_) (fun h24 => ?_)
  · refine V_aln (pc := 29) dJ1_indexOf_4cfef_29 rfl rfl ?_
    refine V_iln (pc := 30) dJ1_indexOf_4cfef_30 rfl rfl ?_
    refine V_iln (pc := 31) dJ1_indexOf_4cfef_31 rfl rfl ?_
    refine V_iln (pc := 32) dJ1_indexOf_4cfef_32 rfl rfl ?_
    refine V_cSi0 (pc := 33) (jc_J1_95 dJ1_indexOf_4cfef_33 rfl) rfl rfl (Nat.le_of_ble_eq_true rfl) ?_
    refine j_ixc hj hs hc ?_
    refine V_iret (pc := 36) dJ1_indexOf_4cfef_36 rfl rfl ?_
    exact h
  · exact absurd (Int32.not_le.mp (nI_ge hl (by have := hs.2.2.2.2.2; omega))) h24
set_option maxRecDepth 100000 in
set_option maxHeartbeats 1000000 in
theorem j_indexOf2 {x : pX} {d : Nat} {S : pS} {Q : Int32 → pS → Prop} {a bb : Nat} {cs : List Nat} (hj : XJ x) (hs : STR x a bb cs) {c0 : Nat} (hc : c0 < 128) (hl : 0 < cs.length) (h : Q (bi (ixc cs c0 cs.length 0)) S) : PI x (d + 6) M_J0_indexOf_7cf53 [.ref a, .int (nI c0), .int (nI 0)] S Q := by
  refine PM_of (by decide +kernel) (Nat.le_of_ble_eq_true rfl) ?_
  show V x (d + 6) M_J0_indexOf_7cf53 (qi Q) (0, 0) 0 [(0, .ref a), (1, .int (nI c0)), (2, .int (nI 0))] [] S
  refine V_aln (pc := 0) dJ0_indexOf_7cf53_0 rfl rfl ?_
  refine V_cXi0 (pc := 1) (jc_J0_492 dJ0_indexOf_7cf53_1 rfl) rfl rfl (Nat.le_of_ble_eq_true rfl) hs.1 ?_
  refine j_isLatin1 hj hs ?_
  refine V_eq (pc := 4) (t := 23) dJ0_indexOf_7cf53_4 (by decide) (fun h => absurd h (by decide)) (fun _ => ?_)
  refine V_aln (pc := 7) dJ0_indexOf_7cf53_7 rfl rfl ?_
  refine V_gx (pc := 8) "java/lang/String" "value" "[B" dJ0_indexOf_7cf53_8 (FX_J0_9 rfl) hs.2.1 ?_
  refine V_iln (pc := 11) dJ0_indexOf_7cf53_11 rfl rfl ?_
  refine V_iln (pc := 12) dJ0_indexOf_7cf53_12 rfl rfl ?_
  refine V_aln (pc := 13) dJ0_indexOf_7cf53_13 rfl rfl ?_
  refine V_cXi0 (pc := 14) (jc_J0_505 dJ0_indexOf_7cf53_14 rfl) rfl rfl (Nat.le_of_ble_eq_true rfl) hs.1 ?_
  refine j_length hj hs ?_
  refine V_cSi0 (pc := 17) (jc_J0_637 dJ0_indexOf_7cf53_17 rfl) rfl rfl (Nat.le_of_ble_eq_true rfl) ?_
  refine j_indexOf1 hj hs hc hl ?_
  refine V_goto (pc := 20) (t := 36) dJ0_indexOf_7cf53_20 (by decide) ?_
  refine V_iret (pc := 36) dJ0_indexOf_7cf53_36 rfl rfl ?_
  exact h
set_option maxRecDepth 100000 in
set_option maxHeartbeats 1000000 in
theorem j_indexOf {x : pX} {d : Nat} {S : pS} {Q : Int32 → pS → Prop} {a bb : Nat} {cs : List Nat} (hj : XJ x) (hs : STR x a bb cs) {c0 : Nat} (hc : c0 < 128) (hl : 0 < cs.length) (h : Q (bi (ixc cs c0 cs.length 0)) S) : PI x (d + 7) M_J0_indexOf_0f7a4 [.ref a, .int (nI c0)] S Q := by
  refine PM_of (by decide +kernel) (Nat.le_of_ble_eq_true rfl) ?_
  show V x (d + 7) M_J0_indexOf_0f7a4 (qi Q) (0, 0) 0 [(0, .ref a), (1, .int (nI c0))] [] S
  refine V_aln (pc := 0) dJ0_indexOf_0f7a4_0 rfl rfl ?_
  refine V_iln (pc := 1) dJ0_indexOf_0f7a4_1 rfl rfl ?_
  refine V_iconst (pc := 2) (v := 0) dJ0_indexOf_0f7a4_2 (by decide) ?_
  refine V_cXi0 (pc := 3) (jc_J0_633 dJ0_indexOf_0f7a4_3 rfl) rfl rfl (Nat.le_of_ble_eq_true rfl) hs.1 ?_
  refine j_indexOf2 hj hs hc hl ?_
  refine V_iret (pc := 6) dJ0_indexOf_0f7a4_6 rfl rfl ?_
  exact h
