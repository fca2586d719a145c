/-! ===== the class: what a text gives ===== -/
theorem neg_div (y : Int32) : y / -1 = -y := by
  apply Int32.toBitVec_inj.mp
  show BitVec.sdiv y.toBitVec (-1#32) = -y.toBitVec
  rw [BitVec.sdiv_neg (by decide), BitVec.sdiv_one]
theorem sX_self (S : pS) (a : Nat) : sX S a (gX S a) = S := by
  unfold sX; rw [vu_self]; rfl
theorem sX_sX (S : pS) (a : Nat) (r q : Nat → Int32) : sX (sX S a r) a q = sX S a q := by
  unfold sX; show (S.1, S.2.1, gN S, va_up (va_up (gX S) a r) a q, gY S) = _; rw [vu_vu]
set_option maxRecDepth 100000 in
set_option maxHeartbeats 4000000 in
theorem c_joined {x : pX} {d : Nat} {S : pS} {Q : Int32 → pS → Prop} {u c v : Int32} (hl : lvOf c < 5) (h : Q (jn c u v) S) : PI x (d + 1) M_X5_joined [.int u, .int c, .int v] S Q := by
  unfold jn at h
  refine PM_of (by decide +kernel) (Nat.le_of_ble_eq_true rfl) ?_
  show V x (d + 1) M_X5_joined (qi Q) (0, 0) 0 [(0, .int u), (1, .int c), (2, .int v)] [] S
  refine V_iln (pc := 0) dX5_joined_0 rfl rfl ?_
  refine V_lk (pc := 1) [(38, 97), (42, 152), (43, 144), (45, 148), (47, 156), (60, 111), (61, 122), (62, 133), (124, 83)] dX5_joined_1 rfl (by decide) (fun z => by simp only [Op.lookupswitch.offset_cons, Op.lookupswitch.offset_nil]; repeat (first | omega | split)) (fun t1 ht1 => ?_)
  simp only [Op.lookupswitch.offset_cons, Op.lookupswitch.offset_nil] at ht1
  by_cases c1_0 : c = (38 : Int32)
  · rw [if_pos (by rw [c1_0]; decide)] at ht1
    obtain rfl : t1 = 98 := by omega
    rw [c1_0, if_neg (by decide), if_neg (by decide), if_neg (by decide), if_neg (by decide), if_neg (by decide), if_neg (by decide), if_neg (by decide), if_pos rfl] at h
    refine V_iln (pc := 98) dX5_joined_98 rfl rfl ?_
    refine V_eq (pc := 99) (t := 110) dX5_joined_99 (by decide) (fun h99 => ?_) (fun h99 => ?_)
    · rw [if_neg (fun q => q.1 h99)] at h
      refine V_iconst (pc := 110) (v := 0) dX5_joined_110 (by decide) ?_
      refine V_iret (pc := 111) dX5_joined_111 rfl rfl ?_
      exact h
    · refine V_iln (pc := 102) dX5_joined_102 rfl rfl ?_
      refine V_eq (pc := 103) (t := 110) dX5_joined_103 (by decide) (fun h103 => ?_) (fun h103 => ?_)
      · rw [if_neg (fun q => q.2 h103)] at h
        refine V_iconst (pc := 110) (v := 0) dX5_joined_110 (by decide) ?_
        refine V_iret (pc := 111) dX5_joined_111 rfl rfl ?_
        exact h
      · rw [if_pos ⟨h99, h103⟩] at h
        refine V_iconst (pc := 106) (v := 1) dX5_joined_106 (by decide) ?_
        refine V_goto (pc := 107) (t := 111) dX5_joined_107 (by decide) ?_
        refine V_iret (pc := 111) dX5_joined_111 rfl rfl ?_
        exact h
  rw [if_neg (fun q => c1_0 (Int32.toInt_inj.mp (q.symm.trans (by decide))))] at ht1
  by_cases c1_1 : c = (42 : Int32)
  · rw [if_pos (by rw [c1_1]; decide)] at ht1
    obtain rfl : t1 = 153 := by omega
    rw [c1_1, if_neg (by decide), if_neg (by decide), if_pos rfl] at h
    refine V_iln (pc := 153) dX5_joined_153 rfl rfl ?_
    refine V_iln (pc := 154) dX5_joined_154 rfl rfl ?_
    refine V_imul (pc := 155) dX5_joined_155 ?_
    refine V_iret (pc := 156) dX5_joined_156 rfl rfl ?_
    exact h
  rw [if_neg (fun q => c1_1 (Int32.toInt_inj.mp (q.symm.trans (by decide))))] at ht1
  by_cases c1_2 : c = (43 : Int32)
  · rw [if_pos (by rw [c1_2]; decide)] at ht1
    obtain rfl : t1 = 145 := by omega
    rw [c1_2, if_pos rfl] at h
    refine V_iln (pc := 145) dX5_joined_145 rfl rfl ?_
    refine V_iln (pc := 146) dX5_joined_146 rfl rfl ?_
    refine V_iadd (pc := 147) dX5_joined_147 ?_
    refine V_iret (pc := 148) dX5_joined_148 rfl rfl ?_
    exact h
  rw [if_neg (fun q => c1_2 (Int32.toInt_inj.mp (q.symm.trans (by decide))))] at ht1
  by_cases c1_3 : c = (45 : Int32)
  · rw [if_pos (by rw [c1_3]; decide)] at ht1
    obtain rfl : t1 = 149 := by omega
    rw [c1_3, if_neg (by decide), if_pos rfl] at h
    refine V_iln (pc := 149) dX5_joined_149 rfl rfl ?_
    refine V_iln (pc := 150) dX5_joined_150 rfl rfl ?_
    refine V_isub (pc := 151) dX5_joined_151 ?_
    refine V_iret (pc := 152) dX5_joined_152 rfl rfl ?_
    exact h
  rw [if_neg (fun q => c1_3 (Int32.toInt_inj.mp (q.symm.trans (by decide))))] at ht1
  by_cases c1_4 : c = (47 : Int32)
  · rw [if_pos (by rw [c1_4]; decide)] at ht1
    obtain rfl : t1 = 157 := by omega
    rw [c1_4, if_neg (by decide), if_neg (by decide), if_neg (by decide), if_pos rfl] at h
    refine V_iln (pc := 157) dX5_joined_157 rfl rfl ?_
    refine V_ne (pc := 158) (t := 165) dX5_joined_158 (by decide) (fun h158 => ?_) (fun h158 => ?_)
    · rw [if_neg h158] at h
      refine V_iln (pc := 165) dX5_joined_165 rfl rfl ?_
      refine V_iln (pc := 166) dX5_joined_166 rfl rfl ?_
      refine V_idiv (pc := 167) dX5_joined_167 h158 ?_
      refine V_iret (pc := 168) dX5_joined_168 rfl rfl ?_
      first
        | exact h
        | (by_cases q : v = -1
           · rw [if_pos q] at h
             rw [q, neg_div]
             exact h
           · rw [if_neg q] at h
             exact h)
    · rw [if_pos h158] at h
      refine V_iconst (pc := 161) (v := 0) dX5_joined_161 (by decide) ?_
      refine V_goto (pc := 162) (t := 168) dX5_joined_162 (by decide) ?_
      refine V_iret (pc := 168) dX5_joined_168 rfl rfl ?_
      first
        | exact h
        | (by_cases q : v = -1
           · rw [if_pos q] at h
             rw [q, neg_div]
             exact h
           · rw [if_neg q] at h
             exact h)
  rw [if_neg (fun q => c1_4 (Int32.toInt_inj.mp (q.symm.trans (by decide))))] at ht1
  by_cases c1_5 : c = (60 : Int32)
  · rw [if_pos (by rw [c1_5]; decide)] at ht1
    obtain rfl : t1 = 112 := by omega
    rw [c1_5, if_neg (by decide), if_neg (by decide), if_neg (by decide), if_neg (by decide), if_pos rfl] at h
    refine V_iln (pc := 112) dX5_joined_112 rfl rfl ?_
    refine V_iln (pc := 113) dX5_joined_113 rfl rfl ?_
    refine V_cge (pc := 114) (t := 121) dX5_joined_114 (by decide) (fun h114 => ?_) (fun h114 => ?_)
    · rw [if_neg (Int32.not_lt.mpr h114)] at h
      refine V_iconst (pc := 121) (v := 0) dX5_joined_121 (by decide) ?_
      refine V_iret (pc := 122) dX5_joined_122 rfl rfl ?_
      exact h
    · rw [if_pos (Int32.not_le.mp h114)] at h
      refine V_iconst (pc := 117) (v := 1) dX5_joined_117 (by decide) ?_
      refine V_goto (pc := 118) (t := 122) dX5_joined_118 (by decide) ?_
      refine V_iret (pc := 122) dX5_joined_122 rfl rfl ?_
      exact h
  rw [if_neg (fun q => c1_5 (Int32.toInt_inj.mp (q.symm.trans (by decide))))] at ht1
  by_cases c1_6 : c = (61 : Int32)
  · rw [if_pos (by rw [c1_6]; decide)] at ht1
    obtain rfl : t1 = 123 := by omega
    rw [c1_6, if_neg (by decide), if_neg (by decide), if_neg (by decide), if_neg (by decide), if_neg (by decide), if_neg (by decide), if_pos rfl] at h
    refine V_iln (pc := 123) dX5_joined_123 rfl rfl ?_
    refine V_iln (pc := 124) dX5_joined_124 rfl rfl ?_
    refine V_cne (pc := 125) (t := 132) dX5_joined_125 (by decide) (fun h125 => ?_) (fun h125 => ?_)
    · rw [if_neg h125] at h
      refine V_iconst (pc := 132) (v := 0) dX5_joined_132 (by decide) ?_
      refine V_iret (pc := 133) dX5_joined_133 rfl rfl ?_
      exact h
    · rw [if_pos h125] at h
      refine V_iconst (pc := 128) (v := 1) dX5_joined_128 (by decide) ?_
      refine V_goto (pc := 129) (t := 133) dX5_joined_129 (by decide) ?_
      refine V_iret (pc := 133) dX5_joined_133 rfl rfl ?_
      exact h
  rw [if_neg (fun q => c1_6 (Int32.toInt_inj.mp (q.symm.trans (by decide))))] at ht1
  by_cases c1_7 : c = (62 : Int32)
  · rw [if_pos (by rw [c1_7]; decide)] at ht1
    obtain rfl : t1 = 134 := by omega
    rw [c1_7, if_neg (by decide), if_neg (by decide), if_neg (by decide), if_neg (by decide), if_neg (by decide), if_pos rfl] at h
    refine V_iln (pc := 134) dX5_joined_134 rfl rfl ?_
    refine V_iln (pc := 135) dX5_joined_135 rfl rfl ?_
    refine V_cle (pc := 136) (t := 143) dX5_joined_136 (by decide) (fun h136 => ?_) (fun h136 => ?_)
    · rw [if_neg (Int32.not_lt.mpr h136)] at h
      refine V_iconst (pc := 143) (v := 0) dX5_joined_143 (by decide) ?_
      refine V_iret (pc := 144) dX5_joined_144 rfl rfl ?_
      exact h
    · rw [if_pos (Int32.not_le.mp h136)] at h
      refine V_iconst (pc := 139) (v := 1) dX5_joined_139 (by decide) ?_
      refine V_goto (pc := 140) (t := 144) dX5_joined_140 (by decide) ?_
      refine V_iret (pc := 144) dX5_joined_144 rfl rfl ?_
      exact h
  rw [if_neg (fun q => c1_7 (Int32.toInt_inj.mp (q.symm.trans (by decide))))] at ht1
  by_cases c1_8 : c = (124 : Int32)
  · rw [if_pos (by rw [c1_8]; decide)] at ht1
    obtain rfl : t1 = 84 := by omega
    rw [c1_8, if_neg (by decide), if_neg (by decide), if_neg (by decide), if_neg (by decide), if_neg (by decide), if_neg (by decide), if_neg (by decide), if_neg (by decide)] at h
    refine V_iln (pc := 84) dX5_joined_84 rfl rfl ?_
    refine V_ne (pc := 85) (t := 92) dX5_joined_85 (by decide) (fun h85 => ?_) (fun h85 => ?_)
    · rw [if_pos (Or.inl h85)] at h
      refine V_iconst (pc := 92) (v := 1) dX5_joined_92 (by decide) ?_
      refine V_goto (pc := 93) (t := 97) dX5_joined_93 (by decide) ?_
      refine V_iret (pc := 97) dX5_joined_97 rfl rfl ?_
      exact h
    · refine V_iln (pc := 88) dX5_joined_88 rfl rfl ?_
      refine V_eq (pc := 89) (t := 96) dX5_joined_89 (by decide) (fun h89 => ?_) (fun h89 => ?_)
      · rw [if_neg (fun q => q.elim (fun w => w h85) (fun w => w h89))] at h
        refine V_iconst (pc := 96) (v := 0) dX5_joined_96 (by decide) ?_
        refine V_iret (pc := 97) dX5_joined_97 rfl rfl ?_
        exact h
      · rw [if_pos (Or.inr h89)] at h
        refine V_iconst (pc := 92) (v := 1) dX5_joined_92 (by decide) ?_
        refine V_goto (pc := 93) (t := 97) dX5_joined_93 (by decide) ?_
        refine V_iret (pc := 97) dX5_joined_97 rfl rfl ?_
        exact h
  rw [if_neg (fun q => c1_8 (Int32.toInt_inj.mp (q.symm.trans (by decide))))] at ht1
  obtain rfl : t1 = 169 := by omega
  exfalso
  revert hl
  unfold lvOf
  rw [if_neg c1_8, if_neg c1_0, if_neg (fun q => q.elim c1_5 (fun q => q.elim c1_6 c1_7)), if_neg (fun q => q.elim c1_2 c1_3), if_neg (fun q => q.elim c1_1 c1_4)]
  decide
set_option maxRecDepth 100000 in
set_option maxHeartbeats 4000000 in
theorem c_valueOf {x : pX} {d : Nat} {S : pS} {Q : Int32 → pS → Prop} {s a b c : Int32} (h : Q (if s = 10000 then a else if s = 10001 then b else if s = 10002 then c else s) S) : PI x (d + 1) M_X5_valueOf [.int s, .int a, .int b, .int c] S Q := by
  refine PM_of (by decide +kernel) (Nat.le_of_ble_eq_true rfl) ?_
  show V x (d + 1) M_X5_valueOf (qi Q) (0, 0) 0 [(0, .int s), (1, .int a), (2, .int b), (3, .int c)] [] S
  refine V_iln (pc := 0) dX5_valueOf_0 rfl rfl ?_
  refine V_tab (pc := 1) (t := 34) [28, 30, 32] dX5_valueOf_1 (by decide) (by decide) (by decide) (fun i1 q1 hq1 he1 => ?_) (fun ho1 => ?_)
  · match i1, hq1, he1 with
    | 0, hq, he => 
      cases hq
      have e1 : s = (10000 : Int32) := Int32.toInt_inj.mp (by rw [he]; decide)
      rw [if_pos e1] at h
      refine V_iln (pc := 28) dX5_valueOf_28 rfl rfl ?_
      refine V_iret (pc := 29) dX5_valueOf_29 rfl rfl ?_
      exact h
    | 1, hq, he => 
      cases hq
      have e1 : s = (10001 : Int32) := Int32.toInt_inj.mp (by rw [he]; decide)
      rw [e1, if_neg (by decide), if_pos rfl] at h
      refine V_iln (pc := 30) dX5_valueOf_30 rfl rfl ?_
      refine V_iret (pc := 31) dX5_valueOf_31 rfl rfl ?_
      exact h
    | 2, hq, he => 
      cases hq
      have e1 : s = (10002 : Int32) := Int32.toInt_inj.mp (by rw [he]; decide)
      rw [e1, if_neg (by decide), if_neg (by decide), if_pos rfl] at h
      refine V_iln (pc := 32) dX5_valueOf_32 rfl rfl ?_
      refine V_iret (pc := 33) dX5_valueOf_33 rfl rfl ?_
      exact h
    | n + 3, hq, _ => simp at hq
  · have ho1 : (s).toInt < 10000 ∨ 10003 ≤ (s).toInt := by have q := ho1; simp only [List.length_cons, List.length_nil] at q; omega
    rw [if_neg (fun q => by rw [q] at ho1; revert ho1; decide), if_neg (fun q => by rw [q] at ho1; revert ho1; decide), if_neg (fun q => by rw [q] at ho1; revert ho1; decide)] at h
    refine V_iln (pc := 34) dX5_valueOf_34 rfl rfl ?_
    refine V_iret (pc := 35) dX5_valueOf_35 rfl rfl ?_
    exact h
/-- what the names of a key stand for -/
def nmK (key a b c : Int32) : Nat → Int32 := fun ch => if key = 0 then (if ch = 103 then a else if ch = 116 then b else c) else if key = 1 then (if ch = 115 then a else b) else (if ch = 108 then a else b)
theorem nmK_0 (a b c : Int32) : nmK 0 a b c = nmW a b c := rfl
theorem nmK_1 (a b c : Int32) : nmK 1 a b c = nmL a b := rfl
theorem nmK_2 (a b c : Int32) : nmK 2 a b c = nmF a b := rfl
/-- a name's step stands for what the name stands for -/
theorem enc_nm {key : Int32} {ch : Nat} (h : okN key ch) (a b c : Int32) : (0 ≤ enc key 1 (nI ch)) ∧ (if enc key 1 (nI ch) = 10000 then a else if enc key 1 (nI ch) = 10001 then b else if enc key 1 (nI ch) = 10002 then c else enc key 1 (nI ch)) = nmK key a b c ch := by
  rcases h with ⟨rfl, rfl | rfl | rfl⟩ | ⟨rfl, rfl | rfl⟩ | ⟨rfl, rfl | rfl⟩ <;> exact ⟨by decide, rfl⟩
theorem lv_pos {c : Int32} (h : c = 33 ∨ lvOf c < 5) : -c < 0 := by
  have : c = 33 ∨ c = 124 ∨ c = 38 ∨ c = 60 ∨ c = 61 ∨ c = 62 ∨ c = 43 ∨ c = 45 ∨ c = 42 ∨ c = 47 := by
    rcases h with h | h
    · exact Or.inl h
    · match hl : lvOf c, h with
      | 0, _ => exact Or.inr (Or.inl (lv0.mp hl))
      | 1, _ => exact Or.inr (Or.inr (Or.inl (lv1.mp hl)))
      | 2, _ => rcases lv2.mp hl with e | e | e <;> simp [e]
      | 3, _ => rcases lv3.mp hl with e | e <;> simp [e]
      | 4, _ => rcases lv4.mp hl with e | e <;> simp [e]
      | n + 5, h => exact absurd h (by omega)
  rcases this with rfl | rfl | rfl | rfl | rfl | rfl | rfl | rfl | rfl | rfl <;> decide
theorem neg_inj {a b : Int32} (h : -a = -b) : a = b := by
  have e : - -a = - -b := by rw [h]
  rwa [Int32.neg_neg, Int32.neg_neg] at e
set_option maxRecDepth 100000 in
set_option maxHeartbeats 4000000 in
theorem t_gives_L {x : pX} {d : Nat} {S : pS} {bb : Nat × Nat} {Q : Int32 → pS → Prop} {σ : Nat → Int32} {τ t a c many pcs : Nat} {va vb vc : Int32} {r0 : Nat → Int32} (hO1 : hk S τ 5) (r1 : gR S 162 τ = some a) (r2 : hk S a 10) (r3 : gN S a = many) (r4 : wfT σ t many) (r5 : ∀ k, k < many → gX S a k = enc (σ (154 + 200 * t)) (σ (158 + 200 * t + 2 * k)) (σ (159 + 200 * t + 2 * k))) (r6 : gR S 163 τ = some c) (r7 : hk S c 10) (r8 : gN S c = pcs) (r10 : pcs ≤ 96) (r11 : ∀ k, k < many → ¬ σ (158 + 200 * t + 2 * k) = 2 → hgt σ t k < pcs) (r12 : ∀ k, k < many → σ (158 + 200 * t + 2 * k) = 0 → ∃ v : Nat, v < 10000 ∧ σ (159 + 200 * t + 2 * k) = nI v) (r13 : ∀ k, k < many → σ (158 + 200 * t + 2 * k) = 2 → σ (159 + 200 * t + 2 * k) = 33 ∨ lvOf (σ (159 + 200 * t + 2 * k)) < 5) (hac : a ≠ c) (h98 : many ≤ 98) (hh : ∀ k, k ≤ many → hgt σ t k ≤ pcs) (h : ∀ r, Q (wkd σ t many (nmK (σ (154 + 200 * t)) va vb vc)) (sX S c r)) : ∀ (n k : Nat), k + n = many → V x (d + 3) M_X5_gives (qi Q) bb 6 [(0, .ref τ), (1, .int va), (2, .int vb), (3, .int vc), (4, .int (nI ((hgt σ t k)))), (5, .int (nI k))] [] (sX S c (wst σ t (nmK (σ (154 + 200 * t)) va vb vc) r0 k).1) := by
  intro n
  induction n with
  | zero =>
    intro k hk
    obtain rfl : k = many := by omega
    have hk1 := r4.2.2.2.2
    have hp1 := hh k (Nat.le_refl _)
    have hkm : (wst σ t (nmK (σ (154 + 200 * t)) va vb vc) r0 k).1 0 = wkd σ t k (nmK (σ (154 + 200 * t)) va vb vc) := wkd_eq r4 (fun _ _ => rfl)
    refine V_il (pc := 6) dX5_gives_6 rfl ?_
    refine V_aln (pc := 8) dX5_gives_8 rfl rfl ?_
    refine V_gr (pc := 9) 5 2 162 dX5_gives_9 (FL_X5_16 rfl) rfl rfl hO1 r1 ?_
    refine V_len (pc := 12) (N := k) dX5_gives_12 r2 r3 ?_
    refine V_cge (pc := 13) (t := 148) dX5_gives_13 (by decide) (fun h13 => ?_) (fun h13 => ?_)
    · refine V_il (pc := 148) dX5_gives_148 rfl ?_
      refine V_le (pc := 150) (t := 162) dX5_gives_150 (by decide) (fun h150 => ?_) (fun h150 => ?_)
      · exact absurd h150 (by rw [hk1]; decide)
      · refine V_aln (pc := 153) dX5_gives_153 rfl rfl ?_
        refine V_gr (pc := 154) 5 3 163 dX5_gives_154 (FL_X5_26 rfl) rfl rfl hO1 r6 ?_
        refine V_iconst (pc := 157) (v := 0) dX5_gives_157 (by decide) ?_
        refine V_ia (pc := 158) (N := pcs) 0 dX5_gives_158 r7 r8 (by omega) rfl (by omega) ?_
        refine V_goto (pc := 159) (t := 163) dX5_gives_159 (by decide) ?_
        refine V_iret (pc := 163) dX5_gives_163 rfl rfl ?_
        rw [gX_sX, if_pos rfl, hkm]
        exact h _
    · exact absurd (nI_le (by omega) (by omega)) h13
  | succ n ih =>
    intro k hk
    have hp := hh k (by omega)
    have hp1 := hh (k + 1) (by omega)
    obtain ⟨h99, hc⟩ := r4.2.2.2.1 k (by omega)
    rcases hc with w0 | ⟨w1, ch, ech, hok⟩ | ⟨w2, ⟨e33, hge⟩ | ⟨n33, hge⟩⟩
    · obtain ⟨q, hq, eq⟩ := r12 k (by omega) w0
      have hlt := r11 k (by omega) (by rw [w0]; decide)
      have eE : enc (σ (154 + 200 * t)) (σ (158 + 200 * t + 2 * k)) (σ (159 + 200 * t + 2 * k)) = nI q := by unfold enc; rw [if_pos w0]; exact eq
      refine V_il (pc := 6) dX5_gives_6 rfl ?_
      refine V_aln (pc := 8) dX5_gives_8 rfl rfl ?_
      refine V_gr (pc := 9) 5 2 162 dX5_gives_9 (FL_X5_16 rfl) rfl rfl hO1 r1 ?_
      refine V_len (pc := 12) (N := many) dX5_gives_12 r2 r3 ?_
      refine V_cge (pc := 13) (t := 148) dX5_gives_13 (by decide) (fun h13 => ?_) (fun h13 => ?_)
      · exact absurd h13 (nI_ge (by omega) (by omega))
      · refine V_aln (pc := 16) dX5_gives_16 rfl rfl ?_
        refine V_gr (pc := 17) 5 2 162 dX5_gives_17 (FL_X5_16 rfl) rfl rfl hO1 r1 ?_
        refine V_il (pc := 20) dX5_gives_20 rfl ?_
        refine V_iae (pc := 22) (N := many) (v := (nI q)) k dX5_gives_22 r2 r3 (by omega) rfl (by omega) (by rw [gX_sX, if_neg hac, r5 k (by omega)]; exact eE) ?_
        refine V_is (pc := 23) (fun y => [(0, .ref τ), (1, .int va), (2, .int vb), (3, .int vc), (4, .int (nI ((hgt σ t k)))), (5, .int (nI k)), (6, .int y)]) dX5_gives_23 (by decide) (fun _ => rfl) (fun y23 ey23 => ?_)
        subst ey23
        refine V_il (pc := 25) dX5_gives_25 rfl ?_
        refine V_lt (pc := 27) (t := 61) dX5_gives_27 (by decide) (fun h27 => ?_) (fun h27 => ?_)
        · exact absurd h27 (nI_neg (by omega))
        · refine V_il (pc := 30) dX5_gives_30 rfl ?_
          refine V_aln (pc := 32) dX5_gives_32 rfl rfl ?_
          refine V_gr (pc := 33) 5 3 163 dX5_gives_33 (FL_X5_26 rfl) rfl rfl hO1 r6 ?_
          refine V_len (pc := 36) (N := pcs) dX5_gives_36 r7 r8 ?_
          refine V_cge (pc := 37) (t := 142) dX5_gives_37 (by decide) (fun h37 => ?_) (fun h37 => ?_)
          · exact absurd h37 (nI_ge (by omega) (by omega))
          · refine V_aln (pc := 40) dX5_gives_40 rfl rfl ?_
            refine V_gr (pc := 41) 5 3 163 dX5_gives_41 (FL_X5_26 rfl) rfl rfl hO1 r6 ?_
            refine V_il (pc := 44) dX5_gives_44 rfl ?_
            refine V_il (pc := 46) dX5_gives_46 rfl ?_
            refine V_iln (pc := 48) dX5_gives_48 rfl rfl ?_
            refine V_iln (pc := 49) dX5_gives_49 rfl rfl ?_
            refine V_iln (pc := 50) dX5_gives_50 rfl rfl ?_
            refine V_cSi0 (pc := 51) (jc_X5_29 dX5_gives_51 rfl) rfl rfl (Nat.le_of_ble_eq_true rfl) ?_
            refine c_valueOf ?_
            rw [if_neg (show ¬ nI q = (10000 : Int32) from fun w => absurd ((nI_eq (b := 10000) (by omega) (by decide)).mp w) (by omega)), if_neg (show ¬ nI q = (10001 : Int32) from fun w => absurd ((nI_eq (b := 10001) (by omega) (by decide)).mp w) (by omega)), if_neg (show ¬ nI q = (10002 : Int32) from fun w => absurd ((nI_eq (b := 10002) (by omega) (by decide)).mp w) (by omega))]
            refine V_ias (pc := 54) (N := pcs) (hgt σ t k) dX5_gives_54 r7 r8 (by omega) rfl (by omega) ?_
            refine V_inc (pc := 55) (fun y => [(0, .ref τ), (1, .int va), (2, .int vb), (3, .int vc), (4, .int y), (5, .int (nI k)), (6, .int (nI q))]) (w := 1) dX5_gives_55 (by decide) (by decide) rfl (fun _ => rfl) (fun y55 ey55 => ?_)
            obtain rfl : y55 = nI (((hgt σ t k)) + 1) := by rw [ey55]; exact nI_1 _
            refine V_goto (pc := 58) (t := 142) dX5_gives_58 (by decide) ?_
            refine V_inc (pc := 142) (fun y => [(0, .ref τ), (1, .int va), (2, .int vb), (3, .int vc), (4, .int (nI (((hgt σ t k)) + 1))), (5, .int y), (6, .int (nI q))]) (w := 1) dX5_gives_142 (by decide) (by decide) rfl (fun _ => rfl) (fun y142 ey142 => ?_)
            obtain rfl : y142 = nI (k + 1) := by rw [ey142]; exact nI_1 _
            refine V_goto (pc := 145) (t := 6) dX5_gives_145 (by decide) ?_
            refine V_lp [0, 1, 2, 3, 4, 5] (ls' := [(0, .ref τ), (1, .int va), (2, .int vb), (3, .int vc), (4, .int (nI (((hgt σ t k)) + 1))), (5, .int (nI (k + 1)))]) rfl ?_
            have e2 : (wst σ t (nmK (σ (154 + 200 * t)) va vb vc) r0 (k + 1)) = (upd (wst σ t (nmK (σ (154 + 200 * t)) va vb vc) r0 k).1 (hgt σ t k) (nI q), hgt σ t k + 1) := by rw [wst_s0 w0, eq]
            rw [sX_sX, gX_sX, if_pos rfl, show upd (wst σ t (nmK (σ (154 + 200 * t)) va vb vc) r0 k).1 (hgt σ t k) (nI q) = (wst σ t (nmK (σ (154 + 200 * t)) va vb vc) r0 (k + 1)).1 by rw [e2], ← hgt_p (by rw [w0]; decide)]
            exact ih (k + 1) (by omega)
    · have hlt := r11 k (by omega) (by rw [w1]; decide)
      have eE : enc (σ (154 + 200 * t)) (σ (158 + 200 * t + 2 * k)) (σ (159 + 200 * t + 2 * k)) = enc (σ (154 + 200 * t)) 1 (nI ch) := by rw [w1, ech]
      have en := enc_nm hok va vb vc
      refine V_il (pc := 6) dX5_gives_6 rfl ?_
      refine V_aln (pc := 8) dX5_gives_8 rfl rfl ?_
      refine V_gr (pc := 9) 5 2 162 dX5_gives_9 (FL_X5_16 rfl) rfl rfl hO1 r1 ?_
      refine V_len (pc := 12) (N := many) dX5_gives_12 r2 r3 ?_
      refine V_cge (pc := 13) (t := 148) dX5_gives_13 (by decide) (fun h13 => ?_) (fun h13 => ?_)
      · exact absurd h13 (nI_ge (by omega) (by omega))
      · refine V_aln (pc := 16) dX5_gives_16 rfl rfl ?_
        refine V_gr (pc := 17) 5 2 162 dX5_gives_17 (FL_X5_16 rfl) rfl rfl hO1 r1 ?_
        refine V_il (pc := 20) dX5_gives_20 rfl ?_
        refine V_iae (pc := 22) (N := many) (v := (enc (σ (154 + 200 * t)) 1 (nI ch))) k dX5_gives_22 r2 r3 (by omega) rfl (by omega) (by rw [gX_sX, if_neg hac, r5 k (by omega)]; exact eE) ?_
        refine V_is (pc := 23) (fun y => [(0, .ref τ), (1, .int va), (2, .int vb), (3, .int vc), (4, .int (nI ((hgt σ t k)))), (5, .int (nI k)), (6, .int y)]) dX5_gives_23 (by decide) (fun _ => rfl) (fun y23 ey23 => ?_)
        refine V_il (pc := 25) dX5_gives_25 rfl ?_
        refine V_lt (pc := 27) (t := 61) dX5_gives_27 (by decide) (fun h27 => ?_) (fun h27 => ?_)
        · exact absurd (by rw [← ey23]; exact h27) (Int32.not_lt.mpr en.1)
        · refine V_il (pc := 30) dX5_gives_30 rfl ?_
          refine V_aln (pc := 32) dX5_gives_32 rfl rfl ?_
          refine V_gr (pc := 33) 5 3 163 dX5_gives_33 (FL_X5_26 rfl) rfl rfl hO1 r6 ?_
          refine V_len (pc := 36) (N := pcs) dX5_gives_36 r7 r8 ?_
          refine V_cge (pc := 37) (t := 142) dX5_gives_37 (by decide) (fun h37 => ?_) (fun h37 => ?_)
          · exact absurd h37 (nI_ge (by omega) (by omega))
          · refine V_aln (pc := 40) dX5_gives_40 rfl rfl ?_
            refine V_gr (pc := 41) 5 3 163 dX5_gives_41 (FL_X5_26 rfl) rfl rfl hO1 r6 ?_
            refine V_il (pc := 44) dX5_gives_44 rfl ?_
            refine V_il (pc := 46) dX5_gives_46 rfl ?_
            refine V_iln (pc := 48) dX5_gives_48 rfl rfl ?_
            refine V_iln (pc := 49) dX5_gives_49 rfl rfl ?_
            refine V_iln (pc := 50) dX5_gives_50 rfl rfl ?_
            refine V_cSi0 (pc := 51) (jc_X5_29 dX5_gives_51 rfl) rfl rfl (Nat.le_of_ble_eq_true rfl) ?_
            refine c_valueOf ?_
            have en2 : (if y23 = 10000 then va else if y23 = 10001 then vb else if y23 = 10002 then vc else y23) = nmK (σ (154 + 200 * t)) va vb vc ch := by rw [ey23]; exact en.2
            rw [en2]
            refine V_ias (pc := 54) (N := pcs) (hgt σ t k) dX5_gives_54 r7 r8 (by omega) rfl (by omega) ?_
            refine V_inc (pc := 55) (fun y => [(0, .ref τ), (1, .int va), (2, .int vb), (3, .int vc), (4, .int y), (5, .int (nI k)), (6, .int y23)]) (w := 1) dX5_gives_55 (by decide) (by decide) rfl (fun _ => rfl) (fun y55 ey55 => ?_)
            obtain rfl : y55 = nI (((hgt σ t k)) + 1) := by rw [ey55]; exact nI_1 _
            refine V_goto (pc := 58) (t := 142) dX5_gives_58 (by decide) ?_
            refine V_inc (pc := 142) (fun y => [(0, .ref τ), (1, .int va), (2, .int vb), (3, .int vc), (4, .int (nI (((hgt σ t k)) + 1))), (5, .int y), (6, .int y23)]) (w := 1) dX5_gives_142 (by decide) (by decide) rfl (fun _ => rfl) (fun y142 ey142 => ?_)
            obtain rfl : y142 = nI (k + 1) := by rw [ey142]; exact nI_1 _
            refine V_goto (pc := 145) (t := 6) dX5_gives_145 (by decide) ?_
            refine V_lp [0, 1, 2, 3, 4, 5] (ls' := [(0, .ref τ), (1, .int va), (2, .int vb), (3, .int vc), (4, .int (nI (((hgt σ t k)) + 1))), (5, .int (nI (k + 1)))]) rfl ?_
            have e2 : (wst σ t (nmK (σ (154 + 200 * t)) va vb vc) r0 (k + 1)) = (upd (wst σ t (nmK (σ (154 + 200 * t)) va vb vc) r0 k).1 (hgt σ t k) ((nmK (σ (154 + 200 * t)) va vb vc) ch), hgt σ t k + 1) := by rw [wst_s1 w1, ech, nI_clamp (by have := okN_lt hok; omega)]
            rw [sX_sX, gX_sX, if_pos rfl, show upd (wst σ t (nmK (σ (154 + 200 * t)) va vb vc) r0 k).1 (hgt σ t k) ((nmK (σ (154 + 200 * t)) va vb vc) ch) = (wst σ t (nmK (σ (154 + 200 * t)) va vb vc) r0 (k + 1)).1 by rw [e2], ← hgt_p (by rw [w1]; decide)]
            exact ih (k + 1) (by omega)
    · have eE : enc (σ (154 + 200 * t)) (σ (158 + 200 * t + 2 * k)) (σ (159 + 200 * t + 2 * k)) = -33 := by rw [w2, e33]; rfl
      refine V_il (pc := 6) dX5_gives_6 rfl ?_
      refine V_aln (pc := 8) dX5_gives_8 rfl rfl ?_
      refine V_gr (pc := 9) 5 2 162 dX5_gives_9 (FL_X5_16 rfl) rfl rfl hO1 r1 ?_
      refine V_len (pc := 12) (N := many) dX5_gives_12 r2 r3 ?_
      refine V_cge (pc := 13) (t := 148) dX5_gives_13 (by decide) (fun h13 => ?_) (fun h13 => ?_)
      · exact absurd h13 (nI_ge (by omega) (by omega))
      · refine V_aln (pc := 16) dX5_gives_16 rfl rfl ?_
        refine V_gr (pc := 17) 5 2 162 dX5_gives_17 (FL_X5_16 rfl) rfl rfl hO1 r1 ?_
        refine V_il (pc := 20) dX5_gives_20 rfl ?_
        refine V_iae (pc := 22) (N := many) (v := (-33)) k dX5_gives_22 r2 r3 (by omega) rfl (by omega) (by rw [gX_sX, if_neg hac, r5 k (by omega)]; exact eE) ?_
        refine V_is (pc := 23) (fun y => [(0, .ref τ), (1, .int va), (2, .int vb), (3, .int vc), (4, .int (nI ((hgt σ t k)))), (5, .int (nI k)), (6, .int y)]) dX5_gives_23 (by decide) (fun _ => rfl) (fun y23 ey23 => ?_)
        refine V_il (pc := 25) dX5_gives_25 rfl ?_
        refine V_lt (pc := 27) (t := 61) dX5_gives_27 (by decide) (fun h27 => ?_) (fun h27 => ?_)
        · refine V_il (pc := 61) dX5_gives_61 rfl ?_
          refine V_bipush (pc := 63) (v := (-33)) dX5_gives_63 (by decide) ?_
          refine V_cne (pc := 65) (t := 102) dX5_gives_65 (by decide) (fun h65 => ?_) (fun h65 => ?_)
          · exact absurd ey23 h65
          · refine V_il (pc := 68) dX5_gives_68 rfl ?_
            refine V_le (pc := 70) (t := 142) dX5_gives_70 (by decide) (fun h70 => ?_) (fun h70 => ?_)
            · exact absurd h70 (by rw [show (0 : Int32) = nI 0 from rfl]; exact nI_ge (by omega) (by omega))
            · refine V_aln (pc := 73) dX5_gives_73 rfl rfl ?_
              refine V_gr (pc := 74) 5 3 163 dX5_gives_74 (FL_X5_26 rfl) rfl rfl hO1 r6 ?_
              refine V_il (pc := 77) dX5_gives_77 rfl ?_
              refine V_iconst (pc := 79) (v := 1) dX5_gives_79 (by decide) ?_
              refine V_isub (pc := 80) dX5_gives_80 ?_
              refine V_aln (pc := 81) dX5_gives_81 rfl rfl ?_
              refine V_gr (pc := 82) 5 3 163 dX5_gives_82 (FL_X5_26 rfl) rfl rfl hO1 r6 ?_
              refine V_il (pc := 85) dX5_gives_85 rfl ?_
              refine V_iconst (pc := 87) (v := 1) dX5_gives_87 (by decide) ?_
              refine V_isub (pc := 88) dX5_gives_88 ?_
              refine V_ia (pc := 89) (N := pcs) (hgt σ t k - 1) dX5_gives_89 r7 r8 (by omega) (by rw [show (1 : Int32) = nI 1 from rfl, nI_sub (by omega)]) (by omega) ?_
              refine V_ne (pc := 90) (t := 97) dX5_gives_90 (by decide) (fun h90 => ?_) (fun h90 => ?_)
              · have eb : (if (wst σ t (nmK (σ (154 + 200 * t)) va vb vc) r0 k).1 (hgt σ t k - 1) = 0 then (1 : Int32) else 0) = 0 := if_neg (by rw [gX_sX, if_pos rfl] at h90; exact h90)
                refine V_iconst (pc := 97) (v := 0) dX5_gives_97 (by decide) ?_
                refine V_ias (pc := 98) (N := pcs) (hgt σ t k - 1) dX5_gives_98 r7 r8 (by omega) (by rw [show (1 : Int32) = nI 1 from rfl, nI_sub (by omega)]) (by omega) ?_
                refine V_goto (pc := 99) (t := 142) dX5_gives_99 (by decide) ?_
                refine V_inc (pc := 142) (fun y => [(0, .ref τ), (1, .int va), (2, .int vb), (3, .int vc), (4, .int (nI ((hgt σ t k)))), (5, .int y), (6, .int y23)]) (w := 1) dX5_gives_142 (by decide) (by decide) rfl (fun _ => rfl) (fun y142 ey142 => ?_)
                obtain rfl : y142 = nI (k + 1) := by rw [ey142]; exact nI_1 _
                refine V_goto (pc := 145) (t := 6) dX5_gives_145 (by decide) ?_
                refine V_lp [0, 1, 2, 3, 4, 5] (ls' := [(0, .ref τ), (1, .int va), (2, .int vb), (3, .int vc), (4, .int (nI ((hgt σ t k)))), (5, .int (nI (k + 1)))]) rfl ?_
                have e2 : (wst σ t (nmK (σ (154 + 200 * t)) va vb vc) r0 (k + 1)) = (upd (wst σ t (nmK (σ (154 + 200 * t)) va vb vc) r0 k).1 (hgt σ t k - 1) (if (wst σ t (nmK (σ (154 + 200 * t)) va vb vc) r0 k).1 (hgt σ t k - 1) = 0 then 1 else 0), hgt σ t k) := wst_s2 w2 e33
                rw [eb] at e2
                rw [sX_sX, gX_sX, if_pos rfl, show upd (wst σ t (nmK (σ (154 + 200 * t)) va vb vc) r0 k).1 (hgt σ t k - 1) _ = (wst σ t (nmK (σ (154 + 200 * t)) va vb vc) r0 (k + 1)).1 by rw [e2], ← hgt_2 w2 e33]
                exact ih (k + 1) (by omega)
              · have eb : (if (wst σ t (nmK (σ (154 + 200 * t)) va vb vc) r0 k).1 (hgt σ t k - 1) = 0 then (1 : Int32) else 0) = 1 := if_pos (by rw [gX_sX, if_pos rfl] at h90; exact h90)
                refine V_iconst (pc := 93) (v := 1) dX5_gives_93 (by decide) ?_
                refine V_goto (pc := 94) (t := 98) dX5_gives_94 (by decide) ?_
                refine V_ias (pc := 98) (N := pcs) (hgt σ t k - 1) dX5_gives_98 r7 r8 (by omega) (by rw [show (1 : Int32) = nI 1 from rfl, nI_sub (by omega)]) (by omega) ?_
                refine V_goto (pc := 99) (t := 142) dX5_gives_99 (by decide) ?_
                refine V_inc (pc := 142) (fun y => [(0, .ref τ), (1, .int va), (2, .int vb), (3, .int vc), (4, .int (nI ((hgt σ t k)))), (5, .int y), (6, .int y23)]) (w := 1) dX5_gives_142 (by decide) (by decide) rfl (fun _ => rfl) (fun y142 ey142 => ?_)
                obtain rfl : y142 = nI (k + 1) := by rw [ey142]; exact nI_1 _
                refine V_goto (pc := 145) (t := 6) dX5_gives_145 (by decide) ?_
                refine V_lp [0, 1, 2, 3, 4, 5] (ls' := [(0, .ref τ), (1, .int va), (2, .int vb), (3, .int vc), (4, .int (nI ((hgt σ t k)))), (5, .int (nI (k + 1)))]) rfl ?_
                have e2 : (wst σ t (nmK (σ (154 + 200 * t)) va vb vc) r0 (k + 1)) = (upd (wst σ t (nmK (σ (154 + 200 * t)) va vb vc) r0 k).1 (hgt σ t k - 1) (if (wst σ t (nmK (σ (154 + 200 * t)) va vb vc) r0 k).1 (hgt σ t k - 1) = 0 then 1 else 0), hgt σ t k) := wst_s2 w2 e33
                rw [eb] at e2
                rw [sX_sX, gX_sX, if_pos rfl, show upd (wst σ t (nmK (σ (154 + 200 * t)) va vb vc) r0 k).1 (hgt σ t k - 1) _ = (wst σ t (nmK (σ (154 + 200 * t)) va vb vc) r0 (k + 1)).1 by rw [e2], ← hgt_2 w2 e33]
                exact ih (k + 1) (by omega)
        · exact absurd (by rw [ey23]; decide) h27
    · have eE : enc (σ (154 + 200 * t)) (σ (158 + 200 * t + 2 * k)) (σ (159 + 200 * t + 2 * k)) = -(σ (159 + 200 * t + 2 * k)) := by rw [w2]; rfl
      refine V_il (pc := 6) dX5_gives_6 rfl ?_
      refine V_aln (pc := 8) dX5_gives_8 rfl rfl ?_
      refine V_gr (pc := 9) 5 2 162 dX5_gives_9 (FL_X5_16 rfl) rfl rfl hO1 r1 ?_
      refine V_len (pc := 12) (N := many) dX5_gives_12 r2 r3 ?_
      refine V_cge (pc := 13) (t := 148) dX5_gives_13 (by decide) (fun h13 => ?_) (fun h13 => ?_)
      · exact absurd h13 (nI_ge (by omega) (by omega))
      · refine V_aln (pc := 16) dX5_gives_16 rfl rfl ?_
        refine V_gr (pc := 17) 5 2 162 dX5_gives_17 (FL_X5_16 rfl) rfl rfl hO1 r1 ?_
        refine V_il (pc := 20) dX5_gives_20 rfl ?_
        refine V_iae (pc := 22) (N := many) (v := (-(σ (159 + 200 * t + 2 * k)))) k dX5_gives_22 r2 r3 (by omega) rfl (by omega) (by rw [gX_sX, if_neg hac, r5 k (by omega)]; exact eE) ?_
        refine V_is (pc := 23) (fun y => [(0, .ref τ), (1, .int va), (2, .int vb), (3, .int vc), (4, .int (nI ((hgt σ t k)))), (5, .int (nI k)), (6, .int y)]) dX5_gives_23 (by decide) (fun _ => rfl) (fun y23 ey23 => ?_)
        refine V_il (pc := 25) dX5_gives_25 rfl ?_
        refine V_lt (pc := 27) (t := 61) dX5_gives_27 (by decide) (fun h27 => ?_) (fun h27 => ?_)
        · refine V_il (pc := 61) dX5_gives_61 rfl ?_
          refine V_bipush (pc := 63) (v := (-33)) dX5_gives_63 (by decide) ?_
          refine V_cne (pc := 65) (t := 102) dX5_gives_65 (by decide) (fun h65 => ?_) (fun h65 => ?_)
          · refine V_il (pc := 102) dX5_gives_102 rfl ?_
            refine V_iconst (pc := 104) (v := 1) dX5_gives_104 (by decide) ?_
            refine V_cle (pc := 105) (t := 142) dX5_gives_105 (by decide) (fun h105 => ?_) (fun h105 => ?_)
            · exact absurd h105 (by rw [show (1 : Int32) = nI 1 from rfl]; exact nI_ge (by omega) (by omega))
            · refine V_inc (pc := 108) (fun y => [(0, .ref τ), (1, .int va), (2, .int vb), (3, .int vc), (4, .int y), (5, .int (nI k)), (6, .int y23)]) (w := (-1)) dX5_gives_108 (by decide) (by decide) rfl (fun _ => rfl) (fun y108 ey108 => ?_)
              obtain rfl : y108 = nI (hgt σ t k - 1) := by rw [ey108]; rw [show (-1 : Int32) = -(nI 1) from rfl, ← Int32.sub_eq_add_neg]; exact nI_sub (by omega)
              refine V_aln (pc := 111) dX5_gives_111 rfl rfl ?_
              refine V_gr (pc := 112) 5 3 163 dX5_gives_112 (FL_X5_26 rfl) rfl rfl hO1 r6 ?_
              refine V_il (pc := 115) dX5_gives_115 rfl ?_
              refine V_iconst (pc := 117) (v := 1) dX5_gives_117 (by decide) ?_
              refine V_isub (pc := 118) dX5_gives_118 ?_
              refine V_aln (pc := 119) dX5_gives_119 rfl rfl ?_
              refine V_gr (pc := 120) 5 3 163 dX5_gives_120 (FL_X5_26 rfl) rfl rfl hO1 r6 ?_
              refine V_il (pc := 123) dX5_gives_123 rfl ?_
              refine V_iconst (pc := 125) (v := 1) dX5_gives_125 (by decide) ?_
              refine V_isub (pc := 126) dX5_gives_126 ?_
              refine V_ia (pc := 127) (N := pcs) (hgt σ t k - 2) dX5_gives_127 r7 r8 (by omega) (by rw [show (1 : Int32) = nI 1 from rfl, nI_sub (by omega)]; rfl) (by omega) ?_
              refine V_il (pc := 128) dX5_gives_128 rfl ?_
              refine V_ineg (pc := 130) dX5_gives_130 ?_
              refine V_aln (pc := 131) dX5_gives_131 rfl rfl ?_
              refine V_gr (pc := 132) 5 3 163 dX5_gives_132 (FL_X5_26 rfl) rfl rfl hO1 r6 ?_
              refine V_il (pc := 135) dX5_gives_135 rfl ?_
              refine V_ia (pc := 137) (N := pcs) (hgt σ t k - 1) dX5_gives_137 r7 r8 (by omega) rfl (by omega) ?_
              refine V_cSi0 (pc := 138) (jc_X5_33 dX5_gives_138 rfl) rfl rfl (Nat.le_of_ble_eq_true rfl) ?_
              have ej : -y23 = σ (159 + 200 * t + 2 * k) := by rw [ey23, Int32.neg_neg]
              rw [ej]
              refine c_joined ((r13 k (by omega) w2).resolve_left n33) ?_
              refine V_ias (pc := 141) (N := pcs) (hgt σ t k - 2) dX5_gives_141 r7 r8 (by omega) (by rw [show (1 : Int32) = nI 1 from rfl, nI_sub (by omega)]; rfl) (by omega) ?_
              refine V_inc (pc := 142) (fun y => [(0, .ref τ), (1, .int va), (2, .int vb), (3, .int vc), (4, .int (nI (hgt σ t k - 1))), (5, .int y), (6, .int y23)]) (w := 1) dX5_gives_142 (by decide) (by decide) rfl (fun _ => rfl) (fun y142 ey142 => ?_)
              obtain rfl : y142 = nI (k + 1) := by rw [ey142]; exact nI_1 _
              refine V_goto (pc := 145) (t := 6) dX5_gives_145 (by decide) ?_
              refine V_lp [0, 1, 2, 3, 4, 5] (ls' := [(0, .ref τ), (1, .int va), (2, .int vb), (3, .int vc), (4, .int (nI (hgt σ t k - 1))), (5, .int (nI (k + 1)))]) rfl ?_
              have e2 := wst_s3 (nm := (nmK (σ (154 + 200 * t)) va vb vc)) (p0 := r0) w2 n33
              rw [sX_sX, gX_sX, if_pos rfl, show upd (wst σ t (nmK (σ (154 + 200 * t)) va vb vc) r0 k).1 (hgt σ t k - 2) _ = (wst σ t (nmK (σ (154 + 200 * t)) va vb vc) r0 (k + 1)).1 by rw [e2], ← hgt_3 w2 n33]
              exact ih (k + 1) (by omega)
          · exact absurd (neg_inj (ey23.symm.trans h65)) n33
        · exact absurd (by rw [ey23]; exact lv_pos (r13 k (by omega) w2)) h27
theorem hgt_pcs {σ : Nat → Int32} {t many pcs : Nat} (hw : wfT σ t many) (h11 : ∀ k, k < many → ¬ σ (158 + 200 * t + 2 * k) = 2 → hgt σ t k < pcs) : ∀ k, k ≤ many → hgt σ t k ≤ pcs
  | 0, _ => Nat.zero_le _
  | k + 1, hk => by
    have ih := hgt_pcs hw h11 k (by omega)
    obtain ⟨-, hc⟩ := hw.2.2.2.1 k (by omega)
    rcases hc with w | ⟨w, _⟩ | ⟨w, ⟨e, _⟩ | ⟨e, _⟩⟩
    · rw [hgt_p (by rw [w]; decide)]; exact h11 k (by omega) (by rw [w]; decide)
    · rw [hgt_p (by rw [w]; decide)]; exact h11 k (by omega) (by rw [w]; decide)
    · rw [hgt_2 w e]; exact ih
    · rw [hgt_3 w e]; omega
set_option maxRecDepth 100000 in
set_option maxHeartbeats 4000000 in
theorem t_gives {x : pX} {d : Nat} {S : pS} {Q : Int32 → pS → Prop} {ad : Nat → Nat} {σ : Nat → Int32} {τ t : Nat} {va vb vc : Int32} (hS : WS S ad) (hO : TO S τ σ t) (h : ∀ c r, stk S c → Q (wkd σ t (σ (156 + 200 * t)).toNatClampNeg (nmK (σ (154 + 200 * t)) va vb vc)) (sX S c r)) : PI x (d + 3) M_X5_gives [.ref τ, .int va, .int vb, .int vc] S Q := by
  obtain ⟨hO1, q2, q3, a, c, many, pcs, r1, r2, r3, r4, r5, r6, r7, r8, r9, r10, r11, r12, r13, r14⟩ := hO
  have hst : stk S c := ⟨τ, hO1, r6⟩
  have hac : a ≠ c := fun e => (hS.2.2.2.2.2.2 τ a hO1 r1).1 (by rw [e]; exact hst)
  have e0 : (σ (156 + 200 * t)).toNatClampNeg = many := by rw [r4.1]; exact nI_clamp (by have := r4.2.2.1; omega)
  rw [e0] at h
  refine PM_of (by decide +kernel) (Nat.le_of_ble_eq_true rfl) ?_
  show V x (d + 3) M_X5_gives (qi Q) (0, 0) 0 [(0, .ref τ), (1, .int va), (2, .int vb), (3, .int vc)] [] S
  refine V_iconst (pc := 0) (v := 0) dX5_gives_0 (by decide) ?_
  refine V_is (pc := 1) (fun y => [(0, .ref τ), (1, .int va), (2, .int vb), (3, .int vc), (4, .int y)]) dX5_gives_1 (by decide) (fun _ => rfl) (fun y1 ey1 => ?_)
  obtain rfl : y1 = nI 0 := ey1
  refine V_iconst (pc := 3) (v := 0) dX5_gives_3 (by decide) ?_
  refine V_is (pc := 4) (fun y => [(0, .ref τ), (1, .int va), (2, .int vb), (3, .int vc), (4, .int (nI 0)), (5, .int y)]) dX5_gives_4 (by decide) (fun _ => rfl) (fun y4 ey4 => ?_)
  obtain rfl : y4 = nI 0 := ey4
  have q := t_gives_L (x := x) (d := d) (bb := (0, 0)) (va := va) (vb := vb) (vc := vc) (r0 := gX S c) hO1 r1 r2 r3 r4 r5 r6 r7 r8 r10 r11 r12 r13 hac r4.2.2.1 (hgt_pcs r4 r11) (fun r => h c r hst) many 0 (by omega)
  rw [show (wst σ t (nmK (σ (154 + 200 * t)) va vb vc) (gX S c) 0).1 = gX S c from rfl, sX_self] at q
  exact q
