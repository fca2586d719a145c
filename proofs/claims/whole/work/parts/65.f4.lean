/-! ===== the class is made ===== -/
theorem bd_V {x : pX} {d : Nat} {M : pM} {Q : Option Value → pS → Prop} {b : Nat × Nat} {pc : Nat} {ls : List (Nat × Value)} {st : List Value} {S : pS} {c s : Nat} (h1 : b.1 = c) (h2 : b.2 = s) (k : V x d M Q (c, s) pc ls st S) : V x d M Q b pc ls st S := by
  have e : b = (c, s) := by rw [← h1, ← h2]
  rw [e]; exact k
theorem wz_n {S : pS} {ad : Nat → Nat} {c X : Nat} (e0 : ad 0 = c) (n : c ≠ X) (fr : ∀ i, wIx i → i ≠ 0 → ad i ∉ gL S) (hX : X ∈ gL S) : ∀ i, wIx i → ad i ≠ X := fun i hi e => by
  by_cases h : i = 0
  · subst h; exact n (e0.symm.trans e)
  · exact fr i hi h (by rw [e]; exact hX)
theorem wz_nn {S : pS} {ad bd : Nat → Nat} {c : Nat} (e0 : ad 0 = c) (n : ∀ i, wIx i → bd i ≠ c) (fr : ∀ i, wIx i → i ≠ 0 → ad i ∉ gL S) (hX : ∀ i, wIx i → bd i ∈ gL S) : ∀ i j, wIx i → wIx j → bd i ≠ ad j := fun i j hi hj e => by
  by_cases h : j = 0
  · subst h; exact n i hi (e.trans e0)
  · exact fr j hj h (by rw [← e]; exact hX i hi)
def cix (i : Nat) : Nat := if i < 7 then 34 - i else if i < 14 then 27 - 2 * (i - 10) else if i < 18 then 26 - 2 * (i - 14) else if i < 25 then 19 - 4 * (i - 20) else if i < 30 then 18 - 4 * (i - 25) else if i < 35 then 17 - 4 * (i - 30) else 16 - 4 * (i - 35)
theorem cix_i : ∀ i, i < 40 → ∀ j, j < 40 → cIx i → cIx j → cix i = cix j → i = j := fun i hi j hj h1 h2 e => by
  unfold cix at e
  unfold cIx at h1 h2
  repeat (first | omega | split at e)
theorem cix_l (i : Nat) (h : cIx i) : cix i < 35 := by unfold cix; unfold cIx at h; repeat (first | omega | split)
/-- the class as it is made -/
def CZ (S : pS) (c : Nat) (lv im tr ct : Nat → Nat) : Prop := hk S c 8 ∧ (∀ i, cIx i → hk S (ct i) (cK i) ∧ (10 ≤ cK i → gN S (ct i) = cN i)) ∧
  ((gR S 256 c = some (lv 0) ∧ gR S 257 c = some (im 0) ∧ gR S 258 c = some (tr 0)) ∧ (gR S 260 c = some (ct 0) ∧ gR S 261 c = some (ct 1) ∧ gR S 262 c = some (ct 4) ∧ gR S 263 c = some (ct 5) ∧ gR S 264 c = some (ct 6)) ∧ gR S 32 (ct 0) = some (ct 1) ∧ gR S 39 (ct 0) = some (ct 3) ∧ gR S 128 (ct 1) = some (ct 2)) ∧
  (∀ k, k < 4 → gY S (ct 4) k = some (ct (10 + k)) ∧ gR S 66 (ct (10 + k)) = some (ct (14 + k))) ∧
  (∀ k, k < 5 → gY S (ct 5) k = some (ct (20 + k)) ∧ gR S 98 (ct (20 + k)) = some (ct (25 + k)) ∧ gR S 99 (ct (20 + k)) = some (ct (30 + k)) ∧ gR S 66 (ct (30 + k)) = some (ct (35 + k))) ∧
  (∀ i j, cIx i → cIx j → ct i = ct j → i = j) ∧ (WZ S lv ∧ WZ S im ∧ WZ S tr) ∧
  (∀ i j, wIx i → wIx j → lv i ≠ im j ∧ lv i ≠ tr j ∧ im i ≠ tr j) ∧ (∀ i j, wIx i → cIx j → lv i ≠ ct j ∧ im i ≠ ct j ∧ tr i ≠ ct j) ∧
  ((gI S 259 c = 0 ∧ gI S 265 c = 0 ∧ gI S 129 (ct 1) = 0) ∧ (∀ j, gX S (ct 2) j = 0) ∧ (∀ j, gX S (ct 6) j = 0) ∧ (∀ k, k < 4 → gI S 64 (ct (10 + k)) = -1 ∧ gI S 65 (ct (10 + k)) = 0 ∧ ∀ j, gX S (ct (14 + k)) j = 0) ∧ ∀ k, k < 5 → gI S 96 (ct (20 + k)) = 0)
set_option maxRecDepth 100000 in
set_option maxHeartbeats 1000000 in
theorem cz_mk {S : pS} {a c1 c2 c3 c4 c5 c6 c7 c8 c9 c10 c11 c12 c13 c14 c15 c16 c17 c18 c19 c20 c21 c22 c23 c24 c25 c26 c27 c28 c29 c30 c31 c32 c33 c34 c35 c36 c37 c38 : Nat} {R : Nat → Option Nat} {lv im tr : Nat → Nat} (Nn : Nd S [c38, c37, c36, c35, c34, c33, c32, c31, c30, c29, c28, c27, c26, c25, c24, c23, c22, c21, c20, c19, c18, c17, c16, c15, c14, c13, c12, c11, c10, c9, c8, c7, c6, c5, c4]) (e_lv : lv 0 = c1) (e_im : im 0 = c2) (e_tr : tr 0 = c3) (n_lv_im : ∀ i j, wIx i → wIx j → lv i ≠ im j) (n_lv_tr : ∀ i j, wIx i → wIx j → lv i ≠ tr j) (n_im_tr : ∀ i j, wIx i → wIx j → im i ≠ tr j) (n_lv_c4 : ∀ i, wIx i → lv i ≠ c4) (n_lv_c5 : ∀ i, wIx i → lv i ≠ c5) (n_lv_c6 : ∀ i, wIx i → lv i ≠ c6) (n_lv_c7 : ∀ i, wIx i → lv i ≠ c7) (n_lv_c8 : ∀ i, wIx i → lv i ≠ c8) (n_lv_c9 : ∀ i, wIx i → lv i ≠ c9) (n_lv_c10 : ∀ i, wIx i → lv i ≠ c10) (n_lv_c11 : ∀ i, wIx i → lv i ≠ c11) (n_lv_c12 : ∀ i, wIx i → lv i ≠ c12) (n_lv_c13 : ∀ i, wIx i → lv i ≠ c13) (n_lv_c14 : ∀ i, wIx i → lv i ≠ c14) (n_lv_c15 : ∀ i, wIx i → lv i ≠ c15) (n_lv_c16 : ∀ i, wIx i → lv i ≠ c16) (n_lv_c17 : ∀ i, wIx i → lv i ≠ c17) (n_lv_c18 : ∀ i, wIx i → lv i ≠ c18) (n_lv_c19 : ∀ i, wIx i → lv i ≠ c19) (n_lv_c20 : ∀ i, wIx i → lv i ≠ c20) (n_lv_c21 : ∀ i, wIx i → lv i ≠ c21) (n_lv_c22 : ∀ i, wIx i → lv i ≠ c22) (n_lv_c23 : ∀ i, wIx i → lv i ≠ c23) (n_lv_c24 : ∀ i, wIx i → lv i ≠ c24) (n_lv_c25 : ∀ i, wIx i → lv i ≠ c25) (n_lv_c26 : ∀ i, wIx i → lv i ≠ c26) (n_lv_c27 : ∀ i, wIx i → lv i ≠ c27) (n_lv_c28 : ∀ i, wIx i → lv i ≠ c28) (n_lv_c29 : ∀ i, wIx i → lv i ≠ c29) (n_lv_c30 : ∀ i, wIx i → lv i ≠ c30) (n_lv_c31 : ∀ i, wIx i → lv i ≠ c31) (n_lv_c32 : ∀ i, wIx i → lv i ≠ c32) (n_lv_c33 : ∀ i, wIx i → lv i ≠ c33) (n_lv_c34 : ∀ i, wIx i → lv i ≠ c34) (n_lv_c35 : ∀ i, wIx i → lv i ≠ c35) (n_lv_c36 : ∀ i, wIx i → lv i ≠ c36) (n_lv_c37 : ∀ i, wIx i → lv i ≠ c37) (n_lv_c38 : ∀ i, wIx i → lv i ≠ c38) (n_im_c4 : ∀ i, wIx i → im i ≠ c4) (n_im_c5 : ∀ i, wIx i → im i ≠ c5) (n_im_c6 : ∀ i, wIx i → im i ≠ c6) (n_im_c7 : ∀ i, wIx i → im i ≠ c7) (n_im_c8 : ∀ i, wIx i → im i ≠ c8) (n_im_c9 : ∀ i, wIx i → im i ≠ c9) (n_im_c10 : ∀ i, wIx i → im i ≠ c10) (n_im_c11 : ∀ i, wIx i → im i ≠ c11) (n_im_c12 : ∀ i, wIx i → im i ≠ c12) (n_im_c13 : ∀ i, wIx i → im i ≠ c13) (n_im_c14 : ∀ i, wIx i → im i ≠ c14) (n_im_c15 : ∀ i, wIx i → im i ≠ c15) (n_im_c16 : ∀ i, wIx i → im i ≠ c16) (n_im_c17 : ∀ i, wIx i → im i ≠ c17) (n_im_c18 : ∀ i, wIx i → im i ≠ c18) (n_im_c19 : ∀ i, wIx i → im i ≠ c19) (n_im_c20 : ∀ i, wIx i → im i ≠ c20) (n_im_c21 : ∀ i, wIx i → im i ≠ c21) (n_im_c22 : ∀ i, wIx i → im i ≠ c22) (n_im_c23 : ∀ i, wIx i → im i ≠ c23) (n_im_c24 : ∀ i, wIx i → im i ≠ c24) (n_im_c25 : ∀ i, wIx i → im i ≠ c25) (n_im_c26 : ∀ i, wIx i → im i ≠ c26) (n_im_c27 : ∀ i, wIx i → im i ≠ c27) (n_im_c28 : ∀ i, wIx i → im i ≠ c28) (n_im_c29 : ∀ i, wIx i → im i ≠ c29) (n_im_c30 : ∀ i, wIx i → im i ≠ c30) (n_im_c31 : ∀ i, wIx i → im i ≠ c31) (n_im_c32 : ∀ i, wIx i → im i ≠ c32) (n_im_c33 : ∀ i, wIx i → im i ≠ c33) (n_im_c34 : ∀ i, wIx i → im i ≠ c34) (n_im_c35 : ∀ i, wIx i → im i ≠ c35) (n_im_c36 : ∀ i, wIx i → im i ≠ c36) (n_im_c37 : ∀ i, wIx i → im i ≠ c37) (n_im_c38 : ∀ i, wIx i → im i ≠ c38) (n_tr_c4 : ∀ i, wIx i → tr i ≠ c4) (n_tr_c5 : ∀ i, wIx i → tr i ≠ c5) (n_tr_c6 : ∀ i, wIx i → tr i ≠ c6) (n_tr_c7 : ∀ i, wIx i → tr i ≠ c7) (n_tr_c8 : ∀ i, wIx i → tr i ≠ c8) (n_tr_c9 : ∀ i, wIx i → tr i ≠ c9) (n_tr_c10 : ∀ i, wIx i → tr i ≠ c10) (n_tr_c11 : ∀ i, wIx i → tr i ≠ c11) (n_tr_c12 : ∀ i, wIx i → tr i ≠ c12) (n_tr_c13 : ∀ i, wIx i → tr i ≠ c13) (n_tr_c14 : ∀ i, wIx i → tr i ≠ c14) (n_tr_c15 : ∀ i, wIx i → tr i ≠ c15) (n_tr_c16 : ∀ i, wIx i → tr i ≠ c16) (n_tr_c17 : ∀ i, wIx i → tr i ≠ c17) (n_tr_c18 : ∀ i, wIx i → tr i ≠ c18) (n_tr_c19 : ∀ i, wIx i → tr i ≠ c19) (n_tr_c20 : ∀ i, wIx i → tr i ≠ c20) (n_tr_c21 : ∀ i, wIx i → tr i ≠ c21) (n_tr_c22 : ∀ i, wIx i → tr i ≠ c22) (n_tr_c23 : ∀ i, wIx i → tr i ≠ c23) (n_tr_c24 : ∀ i, wIx i → tr i ≠ c24) (n_tr_c25 : ∀ i, wIx i → tr i ≠ c25) (n_tr_c26 : ∀ i, wIx i → tr i ≠ c26) (n_tr_c27 : ∀ i, wIx i → tr i ≠ c27) (n_tr_c28 : ∀ i, wIx i → tr i ≠ c28) (n_tr_c29 : ∀ i, wIx i → tr i ≠ c29) (n_tr_c30 : ∀ i, wIx i → tr i ≠ c30) (n_tr_c31 : ∀ i, wIx i → tr i ≠ c31) (n_tr_c32 : ∀ i, wIx i → tr i ≠ c32) (n_tr_c33 : ∀ i, wIx i → tr i ≠ c33) (n_tr_c34 : ∀ i, wIx i → tr i ≠ c34) (n_tr_c35 : ∀ i, wIx i → tr i ≠ c35) (n_tr_c36 : ∀ i, wIx i → tr i ≠ c36) (n_tr_c37 : ∀ i, wIx i → tr i ≠ c37) (n_tr_c38 : ∀ i, wIx i → tr i ≠ c38) (h_a : OB S a 8 (va_up (va_up (va_up (va_up (va_up (va_up (va_up (va_up (R) 256 (some c1)) 257 (some c2)) 258 (some c3)) 260 (some c4)) 261 (some c5)) 262 (some c8)) 263 (some c9)) 264 (some c10)) (fun _ => 0)) (h_c4 : OB S c4 1 (va_up (va_up (fun _ => none) 32 (some c5)) 39 (some c7)) (fun _ => 0)) (h_c5 : OB S c5 4 (va_up (fun _ => none) 128 (some c6)) (fun _ => 0)) (h_c6 : AR S c6 96 (fun _ => 0)) (h_c7 : AR S c7 96 (fun _ => 0)) (h_c8 : RA S c8 11 4 (va_up (va_up (va_up (va_up (fun _ => none) 0 (some c11)) 1 (some c13)) 2 (some c15)) 3 (some c17))) (h_c9 : RA S c9 12 5 (va_up (va_up (va_up (va_up (va_up (fun _ => none) 0 (some c19)) 1 (some c23)) 2 (some c27)) 3 (some c31)) 4 (some c35))) (h_c10 : AR S c10 60 (fun _ => 0)) (h_c11 : OB S c11 2 (va_up (fun _ => none) 66 (some c12)) (va_up (fun _ => 0) 64 (-1))) (h_c12 : AR S c12 24 (fun _ => 0)) (h_c13 : OB S c13 2 (va_up (fun _ => none) 66 (some c14)) (va_up (fun _ => 0) 64 (-1))) (h_c14 : AR S c14 24 (fun _ => 0)) (h_c15 : OB S c15 2 (va_up (fun _ => none) 66 (some c16)) (va_up (fun _ => 0) 64 (-1))) (h_c16 : AR S c16 24 (fun _ => 0)) (h_c17 : OB S c17 2 (va_up (fun _ => none) 66 (some c18)) (va_up (fun _ => 0) 64 (-1))) (h_c18 : AR S c18 24 (fun _ => 0)) (h_c19 : OB S c19 3 (va_up (va_up (fun _ => none) 98 (some c20)) 99 (some c21)) (va_up (fun _ => 0) 96 0)) (h_c20 : OB S c20 6 (fun _ => none) (fun _ => 0)) (h_c21 : OB S c21 2 (va_up (fun _ => none) 66 (some c22)) (va_up (fun _ => 0) 64 (-1))) (h_c22 : AR S c22 24 (fun _ => 0)) (h_c23 : OB S c23 3 (va_up (va_up (fun _ => none) 98 (some c24)) 99 (some c25)) (va_up (fun _ => 0) 96 0)) (h_c24 : OB S c24 6 (fun _ => none) (fun _ => 0)) (h_c25 : OB S c25 2 (va_up (fun _ => none) 66 (some c26)) (va_up (fun _ => 0) 64 (-1))) (h_c26 : AR S c26 24 (fun _ => 0)) (h_c27 : OB S c27 3 (va_up (va_up (fun _ => none) 98 (some c28)) 99 (some c29)) (va_up (fun _ => 0) 96 0)) (h_c28 : OB S c28 6 (fun _ => none) (fun _ => 0)) (h_c29 : OB S c29 2 (va_up (fun _ => none) 66 (some c30)) (va_up (fun _ => 0) 64 (-1))) (h_c30 : AR S c30 24 (fun _ => 0)) (h_c31 : OB S c31 3 (va_up (va_up (fun _ => none) 98 (some c32)) 99 (some c33)) (va_up (fun _ => 0) 96 0)) (h_c32 : OB S c32 6 (fun _ => none) (fun _ => 0)) (h_c33 : OB S c33 2 (va_up (fun _ => none) 66 (some c34)) (va_up (fun _ => 0) 64 (-1))) (h_c34 : AR S c34 24 (fun _ => 0)) (h_c35 : OB S c35 3 (va_up (va_up (fun _ => none) 98 (some c36)) 99 (some c37)) (va_up (fun _ => 0) 96 0)) (h_c36 : OB S c36 6 (fun _ => none) (fun _ => 0)) (h_c37 : OB S c37 2 (va_up (fun _ => none) 66 (some c38)) (va_up (fun _ => 0) 64 (-1))) (h_c38 : AR S c38 24 (fun _ => 0)) (h_lv : WZ S lv) (h_im : WZ S im) (h_tr : WZ S tr) : CZ S a lv im tr (fun i => [c38, c37, c36, c35, c34, c33, c32, c31, c30, c29, c28, c27, c26, c25, c24, c23, c22, c21, c20, c19, c18, c17, c16, c15, c14, c13, c12, c11, c10, c9, c8, c7, c6, c5, c4].getD (cix i) 0) := by
  refine ⟨h_a.1, fun i hi => ?_, ?_, fun k hk => ?_, fun k hk => ?_, fun i j hi hj e => ?_, ⟨h_lv, h_im, h_tr⟩, fun i j hi hj => ⟨n_lv_im i j hi hj, n_lv_tr i j hi hj, n_im_tr i j hi hj⟩, fun i j hi hj => ?_, ⟨(h_a.2.2 259).trans rfl, (h_a.2.2 265).trans rfl, (h_c5.2.2 129).trans rfl⟩, fun j => congrFun h_c6.2.2 j, fun j => congrFun h_c10.2.2 j, fun k hk => ?_, fun k hk => ?_⟩
  · match i, hi with
    | 0, _ => exact ⟨h_c4.1, fun q => absurd q (by decide)⟩
    | 1, _ => exact ⟨h_c5.1, fun q => absurd q (by decide)⟩
    | 2, _ => exact ⟨h_c6.1, fun q => h_c6.2.1⟩
    | 3, _ => exact ⟨h_c7.1, fun q => h_c7.2.1⟩
    | 4, _ => exact ⟨h_c8.1, fun q => h_c8.2.1⟩
    | 5, _ => exact ⟨h_c9.1, fun q => h_c9.2.1⟩
    | 6, _ => exact ⟨h_c10.1, fun q => h_c10.2.1⟩
    | 10, _ => exact ⟨h_c11.1, fun q => absurd q (by decide)⟩
    | 11, _ => exact ⟨h_c13.1, fun q => absurd q (by decide)⟩
    | 12, _ => exact ⟨h_c15.1, fun q => absurd q (by decide)⟩
    | 13, _ => exact ⟨h_c17.1, fun q => absurd q (by decide)⟩
    | 14, _ => exact ⟨h_c12.1, fun q => h_c12.2.1⟩
    | 15, _ => exact ⟨h_c14.1, fun q => h_c14.2.1⟩
    | 16, _ => exact ⟨h_c16.1, fun q => h_c16.2.1⟩
    | 17, _ => exact ⟨h_c18.1, fun q => h_c18.2.1⟩
    | 20, _ => exact ⟨h_c19.1, fun q => absurd q (by decide)⟩
    | 21, _ => exact ⟨h_c23.1, fun q => absurd q (by decide)⟩
    | 22, _ => exact ⟨h_c27.1, fun q => absurd q (by decide)⟩
    | 23, _ => exact ⟨h_c31.1, fun q => absurd q (by decide)⟩
    | 24, _ => exact ⟨h_c35.1, fun q => absurd q (by decide)⟩
    | 25, _ => exact ⟨h_c20.1, fun q => absurd q (by decide)⟩
    | 26, _ => exact ⟨h_c24.1, fun q => absurd q (by decide)⟩
    | 27, _ => exact ⟨h_c28.1, fun q => absurd q (by decide)⟩
    | 28, _ => exact ⟨h_c32.1, fun q => absurd q (by decide)⟩
    | 29, _ => exact ⟨h_c36.1, fun q => absurd q (by decide)⟩
    | 30, _ => exact ⟨h_c21.1, fun q => absurd q (by decide)⟩
    | 31, _ => exact ⟨h_c25.1, fun q => absurd q (by decide)⟩
    | 32, _ => exact ⟨h_c29.1, fun q => absurd q (by decide)⟩
    | 33, _ => exact ⟨h_c33.1, fun q => absurd q (by decide)⟩
    | 34, _ => exact ⟨h_c37.1, fun q => absurd q (by decide)⟩
    | 35, _ => exact ⟨h_c22.1, fun q => h_c22.2.1⟩
    | 36, _ => exact ⟨h_c26.1, fun q => h_c26.2.1⟩
    | 37, _ => exact ⟨h_c30.1, fun q => h_c30.2.1⟩
    | 38, _ => exact ⟨h_c34.1, fun q => h_c34.2.1⟩
    | 39, _ => exact ⟨h_c38.1, fun q => h_c38.2.1⟩
    | 7, h => exact absurd h (by unfold cIx; omega)
    | 8, h => exact absurd h (by unfold cIx; omega)
    | 9, h => exact absurd h (by unfold cIx; omega)
    | 18, h => exact absurd h (by unfold cIx; omega)
    | 19, h => exact absurd h (by unfold cIx; omega)
    | n + 40, h => exact absurd h (by unfold cIx; omega)
  · refine ⟨⟨?_, ?_, ?_⟩, ⟨(h_a.2.1 260).trans rfl, (h_a.2.1 261).trans rfl, (h_a.2.1 262).trans rfl, (h_a.2.1 263).trans rfl, (h_a.2.1 264).trans rfl⟩, (h_c4.2.1 32).trans rfl, (h_c4.2.1 39).trans rfl, (h_c5.2.1 128).trans rfl⟩
    · rw [e_lv]; exact (h_a.2.1 256).trans rfl
    · rw [e_im]; exact (h_a.2.1 257).trans rfl
    · rw [e_tr]; exact (h_a.2.1 258).trans rfl
  · match k, hk with
    | 0, _ => exact ⟨(congrFun h_c8.2.2 0).trans rfl, (h_c11.2.1 66).trans rfl⟩
    | 1, _ => exact ⟨(congrFun h_c8.2.2 1).trans rfl, (h_c13.2.1 66).trans rfl⟩
    | 2, _ => exact ⟨(congrFun h_c8.2.2 2).trans rfl, (h_c15.2.1 66).trans rfl⟩
    | 3, _ => exact ⟨(congrFun h_c8.2.2 3).trans rfl, (h_c17.2.1 66).trans rfl⟩
    | n + 4, h => exact absurd h (by omega)
  · match k, hk with
    | 0, _ => exact ⟨(congrFun h_c9.2.2 0).trans rfl, (h_c19.2.1 98).trans rfl, (h_c19.2.1 99).trans rfl, (h_c21.2.1 66).trans rfl⟩
    | 1, _ => exact ⟨(congrFun h_c9.2.2 1).trans rfl, (h_c23.2.1 98).trans rfl, (h_c23.2.1 99).trans rfl, (h_c25.2.1 66).trans rfl⟩
    | 2, _ => exact ⟨(congrFun h_c9.2.2 2).trans rfl, (h_c27.2.1 98).trans rfl, (h_c27.2.1 99).trans rfl, (h_c29.2.1 66).trans rfl⟩
    | 3, _ => exact ⟨(congrFun h_c9.2.2 3).trans rfl, (h_c31.2.1 98).trans rfl, (h_c31.2.1 99).trans rfl, (h_c33.2.1 66).trans rfl⟩
    | 4, _ => exact ⟨(congrFun h_c9.2.2 4).trans rfl, (h_c35.2.1 98).trans rfl, (h_c35.2.1 99).trans rfl, (h_c37.2.1 66).trans rfl⟩
    | n + 5, h => exact absurd h (by omega)
  · exact cix_i i (by unfold cIx at hi; omega) j (by unfold cIx at hj; omega) hi hj (nd_inj _ Nn.1 _ _ (cix_l i hi) (cix_l j hj) e)
  · match j, hj with
    | 0, _ => exact ⟨n_lv_c4 i hi, n_im_c4 i hi, n_tr_c4 i hi⟩
    | 1, _ => exact ⟨n_lv_c5 i hi, n_im_c5 i hi, n_tr_c5 i hi⟩
    | 2, _ => exact ⟨n_lv_c6 i hi, n_im_c6 i hi, n_tr_c6 i hi⟩
    | 3, _ => exact ⟨n_lv_c7 i hi, n_im_c7 i hi, n_tr_c7 i hi⟩
    | 4, _ => exact ⟨n_lv_c8 i hi, n_im_c8 i hi, n_tr_c8 i hi⟩
    | 5, _ => exact ⟨n_lv_c9 i hi, n_im_c9 i hi, n_tr_c9 i hi⟩
    | 6, _ => exact ⟨n_lv_c10 i hi, n_im_c10 i hi, n_tr_c10 i hi⟩
    | 10, _ => exact ⟨n_lv_c11 i hi, n_im_c11 i hi, n_tr_c11 i hi⟩
    | 11, _ => exact ⟨n_lv_c13 i hi, n_im_c13 i hi, n_tr_c13 i hi⟩
    | 12, _ => exact ⟨n_lv_c15 i hi, n_im_c15 i hi, n_tr_c15 i hi⟩
    | 13, _ => exact ⟨n_lv_c17 i hi, n_im_c17 i hi, n_tr_c17 i hi⟩
    | 14, _ => exact ⟨n_lv_c12 i hi, n_im_c12 i hi, n_tr_c12 i hi⟩
    | 15, _ => exact ⟨n_lv_c14 i hi, n_im_c14 i hi, n_tr_c14 i hi⟩
    | 16, _ => exact ⟨n_lv_c16 i hi, n_im_c16 i hi, n_tr_c16 i hi⟩
    | 17, _ => exact ⟨n_lv_c18 i hi, n_im_c18 i hi, n_tr_c18 i hi⟩
    | 20, _ => exact ⟨n_lv_c19 i hi, n_im_c19 i hi, n_tr_c19 i hi⟩
    | 21, _ => exact ⟨n_lv_c23 i hi, n_im_c23 i hi, n_tr_c23 i hi⟩
    | 22, _ => exact ⟨n_lv_c27 i hi, n_im_c27 i hi, n_tr_c27 i hi⟩
    | 23, _ => exact ⟨n_lv_c31 i hi, n_im_c31 i hi, n_tr_c31 i hi⟩
    | 24, _ => exact ⟨n_lv_c35 i hi, n_im_c35 i hi, n_tr_c35 i hi⟩
    | 25, _ => exact ⟨n_lv_c20 i hi, n_im_c20 i hi, n_tr_c20 i hi⟩
    | 26, _ => exact ⟨n_lv_c24 i hi, n_im_c24 i hi, n_tr_c24 i hi⟩
    | 27, _ => exact ⟨n_lv_c28 i hi, n_im_c28 i hi, n_tr_c28 i hi⟩
    | 28, _ => exact ⟨n_lv_c32 i hi, n_im_c32 i hi, n_tr_c32 i hi⟩
    | 29, _ => exact ⟨n_lv_c36 i hi, n_im_c36 i hi, n_tr_c36 i hi⟩
    | 30, _ => exact ⟨n_lv_c21 i hi, n_im_c21 i hi, n_tr_c21 i hi⟩
    | 31, _ => exact ⟨n_lv_c25 i hi, n_im_c25 i hi, n_tr_c25 i hi⟩
    | 32, _ => exact ⟨n_lv_c29 i hi, n_im_c29 i hi, n_tr_c29 i hi⟩
    | 33, _ => exact ⟨n_lv_c33 i hi, n_im_c33 i hi, n_tr_c33 i hi⟩
    | 34, _ => exact ⟨n_lv_c37 i hi, n_im_c37 i hi, n_tr_c37 i hi⟩
    | 35, _ => exact ⟨n_lv_c22 i hi, n_im_c22 i hi, n_tr_c22 i hi⟩
    | 36, _ => exact ⟨n_lv_c26 i hi, n_im_c26 i hi, n_tr_c26 i hi⟩
    | 37, _ => exact ⟨n_lv_c30 i hi, n_im_c30 i hi, n_tr_c30 i hi⟩
    | 38, _ => exact ⟨n_lv_c34 i hi, n_im_c34 i hi, n_tr_c34 i hi⟩
    | 39, _ => exact ⟨n_lv_c38 i hi, n_im_c38 i hi, n_tr_c38 i hi⟩
    | 7, h => exact absurd h (by unfold cIx; omega)
    | 8, h => exact absurd h (by unfold cIx; omega)
    | 9, h => exact absurd h (by unfold cIx; omega)
    | 18, h => exact absurd h (by unfold cIx; omega)
    | 19, h => exact absurd h (by unfold cIx; omega)
    | n + 40, h => exact absurd h (by unfold cIx; omega)
  · match k, hk with
    | 0, _ => exact ⟨(h_c11.2.2 64).trans rfl, (h_c11.2.2 65).trans rfl, fun j => congrFun h_c12.2.2 j⟩
    | 1, _ => exact ⟨(h_c13.2.2 64).trans rfl, (h_c13.2.2 65).trans rfl, fun j => congrFun h_c14.2.2 j⟩
    | 2, _ => exact ⟨(h_c15.2.2 64).trans rfl, (h_c15.2.2 65).trans rfl, fun j => congrFun h_c16.2.2 j⟩
    | 3, _ => exact ⟨(h_c17.2.2 64).trans rfl, (h_c17.2.2 65).trans rfl, fun j => congrFun h_c18.2.2 j⟩
    | n + 4, h => exact absurd h (by omega)
  · match k, hk with
    | 0, _ => exact (h_c19.2.2 96).trans rfl
    | 1, _ => exact (h_c23.2.2 96).trans rfl
    | 2, _ => exact (h_c27.2.2 96).trans rfl
    | 3, _ => exact (h_c31.2.2 96).trans rfl
    | 4, _ => exact (h_c35.2.2 96).trans rfl
    | n + 5, h => exact absurd h (by omega)
set_option maxRecDepth 100000 in
set_option maxHeartbeats 16000000 in
theorem i_X8 {x : pX} {d : Nat} {S : pS} {Q : pS → Prop} {a : Nat} {R : Nat → Option Nat} (ha : OB S a 8 R (fun _ => 0)) (h : ∀ (lv im tr ct : Nat → Nat) (S2 : pS), GX (fun z => z = a) S S2 → CZ S2 a lv im tr ct → Q S2) : PV x (d + 3) M_X8_init [.ref a] S Q := by
  refine PM_of (by decide +kernel) (Nat.le_of_ble_eq_true rfl) ?_
  show V x (d + 3) M_X8_init (qv Q) (92, 1164) 0 [(0, .ref a)] [] S
  refine V_aln (pc := 0) dX8_init_0 rfl rfl ?_
  refine V_oi (pc := 1) (jo_X8_1 dX8_init_1 rfl) (by omega) (Nat.le_of_ble_eq_true rfl) ?_
  refine V_aln (pc := 4) dX8_init_4 rfl rfl ?_
  refine V_new (pc := 5) (jn_X8_7 dX8_init_5 rfl) (Nat.le_of_ble_eq_true rfl) (Nat.le_of_ble_eq_true rfl) (fun c1 q_c1 => ?_)
  refine bd_V (c := 91) (s := 1152) rfl rfl ?_
  obtain ⟨S1, eS1⟩ : ∃ Z, Z = nO S c1 7 := ⟨_, rfl⟩
  rw [← eS1]
  have G1 : GX (fun z => z = c1) S S1 := by rw [eS1]; exact gx_O q_c1 (by decide)
  have f_c1 : c1 ∉ gL S := q_c1
  have n_a_c1 : a ≠ c1 := fun e => q_c1 (e ▸ ha.1.1)
  have n_c1_a := n_a_c1.symm
  have h_a := ha.gx G1 n_a_c1
  have Gt1 : GX (fun z => z = a) S S1 := GX.tr GX.rf G1 (fun z hz e => absurd hz (e ▸ f_c1))
  have h_c1 : OB S1 c1 7 (fun _ => none) (fun _ => 0) := by rw [eS1]; exact ob_new
  clear G1 eS1
  refine V_dup (pc := 8) dX8_init_8 rfl ?_
  refine V_cIv (pc := 9) (jc_X8_9 dX8_init_9 rfl) rfl (Nat.le_of_ble_eq_true rfl) (Nat.le_of_ble_eq_true rfl) (Nat.le_of_ble_eq_true rfl) ?_
  refine i_X7 h_c1 (fun lv S2 e_lv G2 fr_lv h_lv => ?_)
  refine bd_V (c := 73) (s := 961) rfl rfl ?_
  have n_lv_a := wz_n e_lv n_c1_a fr_lv h_a.1.1
  replace h_a := h_a.gx G2 n_a_c1
  have Gt2 : GX (fun z => z = a) S S2 := GX.tr Gt1 G2 (fun z hz e => absurd hz (e ▸ f_c1))
  clear Gt1
  refine V_prf (pc := 12) 8 0 256 dX8_init_12 (FL_X8_10 rfl) rfl rfl (fun _ => rfl) (fun _ => rfl) rfl rfl rfl h_a.1 ?_
  obtain ⟨S3, eS3⟩ : ∃ Z, Z = sR S2 256 a (some c1) := ⟨_, rfl⟩
  rw [← eS3]
  have G3 : GX (fun z => z = a) S2 S3 := by rw [eS3]; exact gx_R
  replace h_lv := h_lv.gx G3 n_lv_a
  have Gt3 : GX (fun z => z = a) S S3 := GX.tr Gt2 G3 (fun z hz e => e)
  clear Gt2
  replace h_a : OB S3 a 8 (va_up (R) 256 (some c1)) (fun _ => 0) := by rw [eS3]; exact h_a.wR
  clear G3 eS3
  refine V_aln (pc := 15) dX8_init_15 rfl rfl ?_
  refine V_new (pc := 16) (jn_X8_7 dX8_init_16 rfl) (Nat.le_of_ble_eq_true rfl) (Nat.le_of_ble_eq_true rfl) (fun c2 q_c2 => ?_)
  refine bd_V (c := 72) (s := 949) rfl rfl ?_
  obtain ⟨S4, eS4⟩ : ∃ Z, Z = nO S3 c2 7 := ⟨_, rfl⟩
  rw [← eS4]
  have G4 : GX (fun z => z = c2) S3 S4 := by rw [eS4]; exact gx_O q_c2 (by decide)
  have f_c2 : c2 ∉ gL S := GX.out Gt3 q_c2
  have n_a_c2 : a ≠ c2 := fun e => q_c2 (e ▸ h_a.1.1)
  have n_c2_a := n_a_c2.symm
  have n_lv_c2 : ∀ i, wIx i → lv i ≠ c2 := fun i hi e => q_c2 (e ▸ (h_lv.1 i hi).1)
  replace h_a := h_a.gx G4 n_a_c2
  replace h_lv := h_lv.gx G4 n_lv_c2
  have Gt4 : GX (fun z => z = a) S S4 := GX.tr Gt3 G4 (fun z hz e => absurd hz (e ▸ f_c2))
  clear Gt3
  have h_c2 : OB S4 c2 7 (fun _ => none) (fun _ => 0) := by rw [eS4]; exact ob_new
  clear G4 eS4
  refine V_dup (pc := 19) dX8_init_19 rfl ?_
  refine V_cIv (pc := 20) (jc_X8_9 dX8_init_20 rfl) rfl (Nat.le_of_ble_eq_true rfl) (Nat.le_of_ble_eq_true rfl) (Nat.le_of_ble_eq_true rfl) ?_
  refine i_X7 h_c2 (fun im S5 e_im G5 fr_im h_im => ?_)
  refine bd_V (c := 54) (s := 758) rfl rfl ?_
  have n_im_a := wz_n e_im n_c2_a fr_im h_a.1.1
  have n_lv_im := wz_nn e_im n_lv_c2 fr_im (fun i hi => (h_lv.1 i hi).1)
  replace h_a := h_a.gx G5 n_a_c2
  replace h_lv := h_lv.gx G5 n_lv_c2
  have Gt5 : GX (fun z => z = a) S S5 := GX.tr Gt4 G5 (fun z hz e => absurd hz (e ▸ f_c2))
  clear Gt4
  refine V_prf (pc := 23) 8 1 257 dX8_init_23 (FL_X8_16 rfl) rfl rfl (fun _ => rfl) (fun _ => rfl) rfl rfl rfl h_a.1 ?_
  obtain ⟨S6, eS6⟩ : ∃ Z, Z = sR S5 257 a (some c2) := ⟨_, rfl⟩
  rw [← eS6]
  have G6 : GX (fun z => z = a) S5 S6 := by rw [eS6]; exact gx_R
  replace h_lv := h_lv.gx G6 n_lv_a
  replace h_im := h_im.gx G6 n_im_a
  have Gt6 : GX (fun z => z = a) S S6 := GX.tr Gt5 G6 (fun z hz e => e)
  clear Gt5
  replace h_a : OB S6 a 8 (va_up (va_up (R) 256 (some c1)) 257 (some c2)) (fun _ => 0) := by rw [eS6]; exact h_a.wR
  clear G6 eS6
  refine V_aln (pc := 26) dX8_init_26 rfl rfl ?_
  refine V_new (pc := 27) (jn_X8_7 dX8_init_27 rfl) (Nat.le_of_ble_eq_true rfl) (Nat.le_of_ble_eq_true rfl) (fun c3 q_c3 => ?_)
  refine bd_V (c := 53) (s := 746) rfl rfl ?_
  obtain ⟨S7, eS7⟩ : ∃ Z, Z = nO S6 c3 7 := ⟨_, rfl⟩
  rw [← eS7]
  have G7 : GX (fun z => z = c3) S6 S7 := by rw [eS7]; exact gx_O q_c3 (by decide)
  have f_c3 : c3 ∉ gL S := GX.out Gt6 q_c3
  have n_a_c3 : a ≠ c3 := fun e => q_c3 (e ▸ h_a.1.1)
  have n_c3_a := n_a_c3.symm
  have n_lv_c3 : ∀ i, wIx i → lv i ≠ c3 := fun i hi e => q_c3 (e ▸ (h_lv.1 i hi).1)
  have n_im_c3 : ∀ i, wIx i → im i ≠ c3 := fun i hi e => q_c3 (e ▸ (h_im.1 i hi).1)
  replace h_a := h_a.gx G7 n_a_c3
  replace h_lv := h_lv.gx G7 n_lv_c3
  replace h_im := h_im.gx G7 n_im_c3
  have Gt7 : GX (fun z => z = a) S S7 := GX.tr Gt6 G7 (fun z hz e => absurd hz (e ▸ f_c3))
  clear Gt6
  have h_c3 : OB S7 c3 7 (fun _ => none) (fun _ => 0) := by rw [eS7]; exact ob_new
  clear G7 eS7
  refine V_dup (pc := 30) dX8_init_30 rfl ?_
  refine V_cIv (pc := 31) (jc_X8_9 dX8_init_31 rfl) rfl (Nat.le_of_ble_eq_true rfl) (Nat.le_of_ble_eq_true rfl) (Nat.le_of_ble_eq_true rfl) ?_
  refine i_X7 h_c3 (fun tr S8 e_tr G8 fr_tr h_tr => ?_)
  refine bd_V (c := 35) (s := 555) rfl rfl ?_
  have n_tr_a := wz_n e_tr n_c3_a fr_tr h_a.1.1
  have n_lv_tr := wz_nn e_tr n_lv_c3 fr_tr (fun i hi => (h_lv.1 i hi).1)
  have n_im_tr := wz_nn e_tr n_im_c3 fr_tr (fun i hi => (h_im.1 i hi).1)
  replace h_a := h_a.gx G8 n_a_c3
  replace h_lv := h_lv.gx G8 n_lv_c3
  replace h_im := h_im.gx G8 n_im_c3
  have Gt8 : GX (fun z => z = a) S S8 := GX.tr Gt7 G8 (fun z hz e => absurd hz (e ▸ f_c3))
  clear Gt7
  refine V_prf (pc := 34) 8 2 258 dX8_init_34 (FL_X8_19 rfl) rfl rfl (fun _ => rfl) (fun _ => rfl) rfl rfl rfl h_a.1 ?_
  obtain ⟨S9, eS9⟩ : ∃ Z, Z = sR S8 258 a (some c3) := ⟨_, rfl⟩
  rw [← eS9]
  have G9 : GX (fun z => z = a) S8 S9 := by rw [eS9]; exact gx_R
  replace h_lv := h_lv.gx G9 n_lv_a
  replace h_im := h_im.gx G9 n_im_a
  replace h_tr := h_tr.gx G9 n_tr_a
  have Gt9 : GX (fun z => z = a) S S9 := GX.tr Gt8 G9 (fun z hz e => e)
  clear Gt8
  replace h_a : OB S9 a 8 (va_up (va_up (va_up (R) 256 (some c1)) 257 (some c2)) 258 (some c3)) (fun _ => 0) := by rw [eS9]; exact h_a.wR
  clear G9 eS9
  refine V_aln (pc := 37) dX8_init_37 rfl rfl ?_
  have Nn : Nd S9 [] := Nd.nil
  refine V_new (pc := 38) (jn_X8_22 dX8_init_38 rfl) (Nat.le_of_ble_eq_true rfl) (Nat.le_of_ble_eq_true rfl) (fun c4 q_c4 => ?_)
  refine bd_V (c := 34) (s := 546) rfl rfl ?_
  obtain ⟨S10, eS10⟩ : ∃ Z, Z = nO S9 c4 1 := ⟨_, rfl⟩
  rw [← eS10]
  have G10 : GX (fun z => z = c4) S9 S10 := by rw [eS10]; exact gx_O q_c4 (by decide)
  have f_c4 : c4 ∉ gL S := GX.out Gt9 q_c4
  have n_a_c4 : a ≠ c4 := fun e => q_c4 (e ▸ h_a.1.1)
  have n_c4_a := n_a_c4.symm
  have n_lv_c4 : ∀ i, wIx i → lv i ≠ c4 := fun i hi e => q_c4 (e ▸ (h_lv.1 i hi).1)
  have n_im_c4 : ∀ i, wIx i → im i ≠ c4 := fun i hi e => q_c4 (e ▸ (h_im.1 i hi).1)
  have n_tr_c4 : ∀ i, wIx i → tr i ≠ c4 := fun i hi e => q_c4 (e ▸ (h_tr.1 i hi).1)
  replace h_a := h_a.gx G10 n_a_c4
  replace h_lv := h_lv.gx G10 n_lv_c4
  replace h_im := h_im.gx G10 n_im_c4
  replace h_tr := h_tr.gx G10 n_tr_c4
  have Gt10 : GX (fun z => z = a) S S10 := GX.tr Gt9 G10 (fun z hz e => absurd hz (e ▸ f_c4))
  clear Gt9
  have h_c4 : OB S10 c4 1 (fun _ => none) (fun _ => 0) := by rw [eS10]; exact ob_new
  replace Nn := Nn.c q_c4 G10 h_c4.1.1
  clear G10 eS10
  refine V_dup (pc := 41) dX8_init_41 rfl ?_
  refine V_cIv (pc := 42) (jc_X8_24 dX8_init_42 rfl) rfl (Nat.le_of_ble_eq_true rfl) (Nat.le_of_ble_eq_true rfl) (Nat.le_of_ble_eq_true rfl) ?_
  refine i_X1 h_c4 (fun c5 c6 c7 S11 G11 q_c5 q_c6 q_c7 n_c5_c6 n_c5_c7 n_c6_c7 h_N h_c5 h_c6 h_c7 => ?_)
  refine bd_V (c := 31) (s := 352) rfl rfl ?_
  have f_c5 : c5 ∉ gL S := GX.out Gt10 q_c5
  have n_c5_a : c5 ≠ a := fun e => q_c5 (by rw [e]; exact h_a.1.1)
  have n_lv_c5 : ∀ i, wIx i → lv i ≠ c5 := fun i hi e => q_c5 (e ▸ (h_lv.1 i hi).1)
  have n_im_c5 : ∀ i, wIx i → im i ≠ c5 := fun i hi e => q_c5 (e ▸ (h_im.1 i hi).1)
  have n_tr_c5 : ∀ i, wIx i → tr i ≠ c5 := fun i hi e => q_c5 (e ▸ (h_tr.1 i hi).1)
  have f_c6 : c6 ∉ gL S := GX.out Gt10 q_c6
  have n_c6_a : c6 ≠ a := fun e => q_c6 (by rw [e]; exact h_a.1.1)
  have n_lv_c6 : ∀ i, wIx i → lv i ≠ c6 := fun i hi e => q_c6 (e ▸ (h_lv.1 i hi).1)
  have n_im_c6 : ∀ i, wIx i → im i ≠ c6 := fun i hi e => q_c6 (e ▸ (h_im.1 i hi).1)
  have n_tr_c6 : ∀ i, wIx i → tr i ≠ c6 := fun i hi e => q_c6 (e ▸ (h_tr.1 i hi).1)
  have f_c7 : c7 ∉ gL S := GX.out Gt10 q_c7
  have n_c7_a : c7 ≠ a := fun e => q_c7 (by rw [e]; exact h_a.1.1)
  have n_lv_c7 : ∀ i, wIx i → lv i ≠ c7 := fun i hi e => q_c7 (e ▸ (h_lv.1 i hi).1)
  have n_im_c7 : ∀ i, wIx i → im i ≠ c7 := fun i hi e => q_c7 (e ▸ (h_im.1 i hi).1)
  have n_tr_c7 : ∀ i, wIx i → tr i ≠ c7 := fun i hi e => q_c7 (e ▸ (h_tr.1 i hi).1)
  replace h_a := h_a.gx G11 n_a_c4
  replace h_lv := h_lv.gx G11 n_lv_c4
  replace h_im := h_im.gx G11 n_im_c4
  replace h_tr := h_tr.gx G11 n_tr_c4
  have Gt11 : GX (fun z => z = a) S S11 := GX.tr Gt10 G11 (fun z hz e => absurd hz (e ▸ f_c4))
  clear Gt10
  clear h_c4
  have h_c4 := h_N
  clear h_N
  have Nno := Nn
  clear Nn
  have Nn := Nno.c q_c5 G11 h_c5.1.1
  replace Nn := Nn.j1 Nno q_c6 n_c5_c6 h_c6.1.1
  replace Nn := Nn.j2 Nno q_c7 n_c6_c7 n_c5_c7 h_c7.1.1
  clear Nno
  clear G11 n_c5_c6 n_c5_c7 n_c6_c7 q_c5 q_c6 q_c7 f_c5 f_c6 f_c7
  refine V_prf (pc := 45) 8 4 260 dX8_init_45 (FL_X8_25 rfl) rfl rfl (fun _ => rfl) (fun _ => rfl) rfl rfl rfl h_a.1 ?_
  obtain ⟨S12, eS12⟩ : ∃ Z, Z = sR S11 260 a (some c4) := ⟨_, rfl⟩
  rw [← eS12]
  have G12 : GX (fun z => z = a) S11 S12 := by rw [eS12]; exact gx_R
  replace h_lv := h_lv.gx G12 n_lv_a
  replace h_im := h_im.gx G12 n_im_a
  replace h_tr := h_tr.gx G12 n_tr_a
  replace h_c4 := h_c4.gx G12 n_c4_a
  replace h_c5 := h_c5.gx G12 n_c5_a
  replace h_c6 := h_c6.gx G12 n_c6_a
  replace h_c7 := h_c7.gx G12 n_c7_a
  have Gt12 : GX (fun z => z = a) S S12 := GX.tr Gt11 G12 (fun z hz e => e)
  clear Gt11
  replace Nn := Nn.gx G12
  replace h_a : OB S12 a 8 (va_up (va_up (va_up (va_up (R) 256 (some c1)) 257 (some c2)) 258 (some c3)) 260 (some c4)) (fun _ => 0) := by rw [eS12]; exact h_a.wR
  clear G12 eS12
  refine V_aln (pc := 48) dX8_init_48 rfl rfl ?_
  refine V_aln (pc := 49) dX8_init_49 rfl rfl ?_
  refine V_gr (pc := 50) 8 4 260 dX8_init_50 (FL_X8_25 rfl) rfl rfl h_a.1 ((h_a.2.1 260).trans rfl) ?_
  refine V_gr (pc := 53) 1 0 32 dX8_init_53 (FL_X8_29 rfl) rfl rfl h_c4.1 ((h_c4.2.1 32).trans rfl) ?_
  refine V_prf (pc := 56) 8 5 261 dX8_init_56 (FL_X8_33 rfl) rfl rfl (fun _ => rfl) (fun _ => rfl) rfl rfl rfl h_a.1 ?_
  obtain ⟨S13, eS13⟩ : ∃ Z, Z = sR S12 261 a (some c5) := ⟨_, rfl⟩
  rw [← eS13]
  have G13 : GX (fun z => z = a) S12 S13 := by rw [eS13]; exact gx_R
  replace h_lv := h_lv.gx G13 n_lv_a
  replace h_im := h_im.gx G13 n_im_a
  replace h_tr := h_tr.gx G13 n_tr_a
  replace h_c4 := h_c4.gx G13 n_c4_a
  replace h_c5 := h_c5.gx G13 n_c5_a
  replace h_c6 := h_c6.gx G13 n_c6_a
  replace h_c7 := h_c7.gx G13 n_c7_a
  have Gt13 : GX (fun z => z = a) S S13 := GX.tr Gt12 G13 (fun z hz e => e)
  clear Gt12
  replace Nn := Nn.gx G13
  replace h_a : OB S13 a 8 (va_up (va_up (va_up (va_up (va_up (R) 256 (some c1)) 257 (some c2)) 258 (some c3)) 260 (some c4)) 261 (some c5)) (fun _ => 0) := by rw [eS13]; exact h_a.wR
  clear G13 eS13
  refine V_aln (pc := 59) dX8_init_59 rfl rfl ?_
  refine V_iconst (pc := 60) (v := 4) dX8_init_60 (by decide) ?_
  refine V_nq (pc := 61) 4 (jq_X8_34 dX8_init_61 rfl) (by decide) (by decide) (Nat.le_of_ble_eq_true rfl) (Nat.le_of_ble_eq_true rfl) (fun c8 q_c8 => ?_)
  refine bd_V (c := 30) (s := 348) rfl rfl ?_
  obtain ⟨S14, eS14⟩ : ∃ Z, Z = nY S13 c8 11 4 := ⟨_, rfl⟩
  rw [← eS14]
  have G14 : GX (fun z => z = c8) S13 S14 := by rw [eS14]; exact gx_Y q_c8 (by decide)
  have f_c8 : c8 ∉ gL S := GX.out Gt13 q_c8
  have n_a_c8 : a ≠ c8 := fun e => q_c8 (e ▸ h_a.1.1)
  have n_c8_a := n_a_c8.symm
  have n_lv_c8 : ∀ i, wIx i → lv i ≠ c8 := fun i hi e => q_c8 (e ▸ (h_lv.1 i hi).1)
  have n_im_c8 : ∀ i, wIx i → im i ≠ c8 := fun i hi e => q_c8 (e ▸ (h_im.1 i hi).1)
  have n_tr_c8 : ∀ i, wIx i → tr i ≠ c8 := fun i hi e => q_c8 (e ▸ (h_tr.1 i hi).1)
  have n_c4_c8 : c4 ≠ c8 := fun e => q_c8 (e ▸ h_c4.1.1)
  have n_c5_c8 : c5 ≠ c8 := fun e => q_c8 (e ▸ h_c5.1.1)
  have n_c6_c8 : c6 ≠ c8 := fun e => q_c8 (e ▸ h_c6.1.1)
  have n_c7_c8 : c7 ≠ c8 := fun e => q_c8 (e ▸ h_c7.1.1)
  replace h_a := h_a.gx G14 n_a_c8
  replace h_lv := h_lv.gx G14 n_lv_c8
  replace h_im := h_im.gx G14 n_im_c8
  replace h_tr := h_tr.gx G14 n_tr_c8
  replace h_c4 := h_c4.gx G14 n_c4_c8
  replace h_c5 := h_c5.gx G14 n_c5_c8
  replace h_c6 := h_c6.gx G14 n_c6_c8
  replace h_c7 := h_c7.gx G14 n_c7_c8
  have Gt14 : GX (fun z => z = a) S S14 := GX.tr Gt13 G14 (fun z hz e => absurd hz (e ▸ f_c8))
  clear Gt13
  have h_c8 : RA S14 c8 11 4 (fun _ => none) := by rw [eS14]; exact ra_new
  replace Nn := Nn.c q_c8 G14 h_c8.1.1
  clear G14 eS14
  refine V_prf (pc := 64) 8 6 262 dX8_init_64 (FL_X8_36 rfl) rfl rfl (fun _ => rfl) (fun _ => rfl) rfl rfl rfl h_a.1 ?_
  obtain ⟨S15, eS15⟩ : ∃ Z, Z = sR S14 262 a (some c8) := ⟨_, rfl⟩
  rw [← eS15]
  have G15 : GX (fun z => z = a) S14 S15 := by rw [eS15]; exact gx_R
  replace h_lv := h_lv.gx G15 n_lv_a
  replace h_im := h_im.gx G15 n_im_a
  replace h_tr := h_tr.gx G15 n_tr_a
  replace h_c4 := h_c4.gx G15 n_c4_a
  replace h_c5 := h_c5.gx G15 n_c5_a
  replace h_c6 := h_c6.gx G15 n_c6_a
  replace h_c7 := h_c7.gx G15 n_c7_a
  replace h_c8 := h_c8.gx G15 n_c8_a
  have Gt15 : GX (fun z => z = a) S S15 := GX.tr Gt14 G15 (fun z hz e => e)
  clear Gt14
  replace Nn := Nn.gx G15
  replace h_a : OB S15 a 8 (va_up (va_up (va_up (va_up (va_up (va_up (R) 256 (some c1)) 257 (some c2)) 258 (some c3)) 260 (some c4)) 261 (some c5)) 262 (some c8)) (fun _ => 0) := by rw [eS15]; exact h_a.wR
  clear G15 eS15
  refine V_aln (pc := 67) dX8_init_67 rfl rfl ?_
  refine V_iconst (pc := 68) (v := 5) dX8_init_68 (by decide) ?_
  refine V_nq (pc := 69) 5 (jq_X8_40 dX8_init_69 rfl) (by decide) (by decide) (Nat.le_of_ble_eq_true rfl) (Nat.le_of_ble_eq_true rfl) (fun c9 q_c9 => ?_)
  refine bd_V (c := 29) (s := 343) rfl rfl ?_
  obtain ⟨S16, eS16⟩ : ∃ Z, Z = nY S15 c9 12 5 := ⟨_, rfl⟩
  rw [← eS16]
  have G16 : GX (fun z => z = c9) S15 S16 := by rw [eS16]; exact gx_Y q_c9 (by decide)
  have f_c9 : c9 ∉ gL S := GX.out Gt15 q_c9
  have n_a_c9 : a ≠ c9 := fun e => q_c9 (e ▸ h_a.1.1)
  have n_c9_a := n_a_c9.symm
  have n_lv_c9 : ∀ i, wIx i → lv i ≠ c9 := fun i hi e => q_c9 (e ▸ (h_lv.1 i hi).1)
  have n_im_c9 : ∀ i, wIx i → im i ≠ c9 := fun i hi e => q_c9 (e ▸ (h_im.1 i hi).1)
  have n_tr_c9 : ∀ i, wIx i → tr i ≠ c9 := fun i hi e => q_c9 (e ▸ (h_tr.1 i hi).1)
  have n_c4_c9 : c4 ≠ c9 := fun e => q_c9 (e ▸ h_c4.1.1)
  have n_c5_c9 : c5 ≠ c9 := fun e => q_c9 (e ▸ h_c5.1.1)
  have n_c6_c9 : c6 ≠ c9 := fun e => q_c9 (e ▸ h_c6.1.1)
  have n_c7_c9 : c7 ≠ c9 := fun e => q_c9 (e ▸ h_c7.1.1)
  have n_c8_c9 : c8 ≠ c9 := fun e => q_c9 (e ▸ h_c8.1.1)
  have n_c9_c8 := n_c8_c9.symm
  replace h_a := h_a.gx G16 n_a_c9
  replace h_lv := h_lv.gx G16 n_lv_c9
  replace h_im := h_im.gx G16 n_im_c9
  replace h_tr := h_tr.gx G16 n_tr_c9
  replace h_c4 := h_c4.gx G16 n_c4_c9
  replace h_c5 := h_c5.gx G16 n_c5_c9
  replace h_c6 := h_c6.gx G16 n_c6_c9
  replace h_c7 := h_c7.gx G16 n_c7_c9
  replace h_c8 := h_c8.gx G16 n_c8_c9
  have Gt16 : GX (fun z => z = a) S S16 := GX.tr Gt15 G16 (fun z hz e => absurd hz (e ▸ f_c9))
  clear Gt15
  have h_c9 : RA S16 c9 12 5 (fun _ => none) := by rw [eS16]; exact ra_new
  replace Nn := Nn.c q_c9 G16 h_c9.1.1
  clear G16 eS16
  refine V_prf (pc := 72) 8 7 263 dX8_init_72 (FL_X8_42 rfl) rfl rfl (fun _ => rfl) (fun _ => rfl) rfl rfl rfl h_a.1 ?_
  obtain ⟨S17, eS17⟩ : ∃ Z, Z = sR S16 263 a (some c9) := ⟨_, rfl⟩
  rw [← eS17]
  have G17 : GX (fun z => z = a) S16 S17 := by rw [eS17]; exact gx_R
  replace h_lv := h_lv.gx G17 n_lv_a
  replace h_im := h_im.gx G17 n_im_a
  replace h_tr := h_tr.gx G17 n_tr_a
  replace h_c4 := h_c4.gx G17 n_c4_a
  replace h_c5 := h_c5.gx G17 n_c5_a
  replace h_c6 := h_c6.gx G17 n_c6_a
  replace h_c7 := h_c7.gx G17 n_c7_a
  replace h_c8 := h_c8.gx G17 n_c8_a
  replace h_c9 := h_c9.gx G17 n_c9_a
  have Gt17 : GX (fun z => z = a) S S17 := GX.tr Gt16 G17 (fun z hz e => e)
  clear Gt16
  replace Nn := Nn.gx G17
  replace h_a : OB S17 a 8 (va_up (va_up (va_up (va_up (va_up (va_up (va_up (R) 256 (some c1)) 257 (some c2)) 258 (some c3)) 260 (some c4)) 261 (some c5)) 262 (some c8)) 263 (some c9)) (fun _ => 0) := by rw [eS17]; exact h_a.wR
  clear G17 eS17
  refine V_aln (pc := 75) dX8_init_75 rfl rfl ?_
  refine V_bipush (pc := 76) (v := 60) dX8_init_76 (by decide) ?_
  refine V_na (pc := 78) 60 (ja_int dX8_init_78) (by decide) (by decide) (Nat.le_of_ble_eq_true rfl) (Nat.le_of_ble_eq_true rfl) (fun c10 q_c10 => ?_)
  refine bd_V (c := 28) (s := 283) rfl rfl ?_
  obtain ⟨S18, eS18⟩ : ∃ Z, Z = nX S17 c10 60 := ⟨_, rfl⟩
  rw [← eS18]
  have G18 : GX (fun z => z = c10) S17 S18 := by rw [eS18]; exact gx_X q_c10
  have f_c10 : c10 ∉ gL S := GX.out Gt17 q_c10
  have n_a_c10 : a ≠ c10 := fun e => q_c10 (e ▸ h_a.1.1)
  have n_c10_a := n_a_c10.symm
  have n_lv_c10 : ∀ i, wIx i → lv i ≠ c10 := fun i hi e => q_c10 (e ▸ (h_lv.1 i hi).1)
  have n_im_c10 : ∀ i, wIx i → im i ≠ c10 := fun i hi e => q_c10 (e ▸ (h_im.1 i hi).1)
  have n_tr_c10 : ∀ i, wIx i → tr i ≠ c10 := fun i hi e => q_c10 (e ▸ (h_tr.1 i hi).1)
  have n_c4_c10 : c4 ≠ c10 := fun e => q_c10 (e ▸ h_c4.1.1)
  have n_c5_c10 : c5 ≠ c10 := fun e => q_c10 (e ▸ h_c5.1.1)
  have n_c6_c10 : c6 ≠ c10 := fun e => q_c10 (e ▸ h_c6.1.1)
  have n_c7_c10 : c7 ≠ c10 := fun e => q_c10 (e ▸ h_c7.1.1)
  have n_c8_c10 : c8 ≠ c10 := fun e => q_c10 (e ▸ h_c8.1.1)
  have n_c10_c8 := n_c8_c10.symm
  have n_c9_c10 : c9 ≠ c10 := fun e => q_c10 (e ▸ h_c9.1.1)
  have n_c10_c9 := n_c9_c10.symm
  replace h_a := h_a.gx G18 n_a_c10
  replace h_lv := h_lv.gx G18 n_lv_c10
  replace h_im := h_im.gx G18 n_im_c10
  replace h_tr := h_tr.gx G18 n_tr_c10
  replace h_c4 := h_c4.gx G18 n_c4_c10
  replace h_c5 := h_c5.gx G18 n_c5_c10
  replace h_c6 := h_c6.gx G18 n_c6_c10
  replace h_c7 := h_c7.gx G18 n_c7_c10
  replace h_c8 := h_c8.gx G18 n_c8_c10
  replace h_c9 := h_c9.gx G18 n_c9_c10
  have Gt18 : GX (fun z => z = a) S S18 := GX.tr Gt17 G18 (fun z hz e => absurd hz (e ▸ f_c10))
  clear Gt17
  have h_c10 : AR S18 c10 60 (fun _ => 0) := by rw [eS18]; exact ar_new
  replace Nn := Nn.c q_c10 G18 h_c10.1.1
  clear G18 eS18
  clear n_a_c10 n_c4_c10 n_c5_c10 n_c6_c10 n_c7_c10 n_c8_c10 n_c9_c10 q_c10 f_c10
  refine V_prf (pc := 80) 8 8 264 dX8_init_80 (FL_X8_46 rfl) rfl rfl (fun _ => rfl) (fun _ => rfl) rfl rfl rfl h_a.1 ?_
  obtain ⟨S19, eS19⟩ : ∃ Z, Z = sR S18 264 a (some c10) := ⟨_, rfl⟩
  rw [← eS19]
  have G19 : GX (fun z => z = a) S18 S19 := by rw [eS19]; exact gx_R
  replace h_lv := h_lv.gx G19 n_lv_a
  replace h_im := h_im.gx G19 n_im_a
  replace h_tr := h_tr.gx G19 n_tr_a
  replace h_c4 := h_c4.gx G19 n_c4_a
  replace h_c5 := h_c5.gx G19 n_c5_a
  replace h_c6 := h_c6.gx G19 n_c6_a
  replace h_c7 := h_c7.gx G19 n_c7_a
  replace h_c8 := h_c8.gx G19 n_c8_a
  replace h_c9 := h_c9.gx G19 n_c9_a
  replace h_c10 := h_c10.gx G19 n_c10_a
  have Gt19 : GX (fun z => z = a) S S19 := GX.tr Gt18 G19 (fun z hz e => e)
  clear Gt18
  replace Nn := Nn.gx G19
  replace h_a : OB S19 a 8 (va_up (va_up (va_up (va_up (va_up (va_up (va_up (va_up (R) 256 (some c1)) 257 (some c2)) 258 (some c3)) 260 (some c4)) 261 (some c5)) 262 (some c8)) 263 (some c9)) 264 (some c10)) (fun _ => 0) := by rw [eS19]; exact h_a.wR
  clear G19 eS19
  refine V_iconst (pc := 83) (v := 0) dX8_init_83 (by decide) ?_
  refine V_isn (pc := 84) (fun y => [(0, .ref a), (1, .int y)]) dX8_init_84 rfl (by decide) (fun _ => rfl) (fun y84 ey84 => ?_)
  obtain rfl : y84 = nI 0 := ey84
  refine V_iln (pc := 85) dX8_init_85 rfl rfl ?_
  refine V_iconst (pc := 86) (v := 4) dX8_init_86 (by decide) ?_
  refine V_cge (pc := 87) (t := 109) dX8_init_87 (by decide) (fun h => absurd h (by decide)) (fun _ => ?_)
  refine V_aln (pc := 90) dX8_init_90 rfl rfl ?_
  refine V_gr (pc := 91) 8 6 262 dX8_init_91 (FL_X8_36 rfl) rfl rfl h_a.1 ((h_a.2.1 262).trans rfl) ?_
  refine V_iln (pc := 94) dX8_init_94 rfl rfl ?_
  refine V_new (pc := 95) (jn_X8_34 dX8_init_95 rfl) (Nat.le_of_ble_eq_true rfl) (Nat.le_of_ble_eq_true rfl) (fun c11 q_c11 => ?_)
  refine bd_V (c := 27) (s := 280) rfl rfl ?_
  obtain ⟨S20, eS20⟩ : ∃ Z, Z = nO S19 c11 2 := ⟨_, rfl⟩
  rw [← eS20]
  have G20 : GX (fun z => z = c11) S19 S20 := by rw [eS20]; exact gx_O q_c11 (by decide)
  have f_c11 : c11 ∉ gL S := GX.out Gt19 q_c11
  have n_a_c11 : a ≠ c11 := fun e => q_c11 (e ▸ h_a.1.1)
  have n_c11_a := n_a_c11.symm
  have n_lv_c11 : ∀ i, wIx i → lv i ≠ c11 := fun i hi e => q_c11 (e ▸ (h_lv.1 i hi).1)
  have n_im_c11 : ∀ i, wIx i → im i ≠ c11 := fun i hi e => q_c11 (e ▸ (h_im.1 i hi).1)
  have n_tr_c11 : ∀ i, wIx i → tr i ≠ c11 := fun i hi e => q_c11 (e ▸ (h_tr.1 i hi).1)
  have n_c4_c11 : c4 ≠ c11 := fun e => q_c11 (e ▸ h_c4.1.1)
  have n_c5_c11 : c5 ≠ c11 := fun e => q_c11 (e ▸ h_c5.1.1)
  have n_c6_c11 : c6 ≠ c11 := fun e => q_c11 (e ▸ h_c6.1.1)
  have n_c7_c11 : c7 ≠ c11 := fun e => q_c11 (e ▸ h_c7.1.1)
  have n_c8_c11 : c8 ≠ c11 := fun e => q_c11 (e ▸ h_c8.1.1)
  have n_c11_c8 := n_c8_c11.symm
  have n_c9_c11 : c9 ≠ c11 := fun e => q_c11 (e ▸ h_c9.1.1)
  have n_c11_c9 := n_c9_c11.symm
  have n_c10_c11 : c10 ≠ c11 := fun e => q_c11 (e ▸ h_c10.1.1)
  replace h_a := h_a.gx G20 n_a_c11
  replace h_lv := h_lv.gx G20 n_lv_c11
  replace h_im := h_im.gx G20 n_im_c11
  replace h_tr := h_tr.gx G20 n_tr_c11
  replace h_c4 := h_c4.gx G20 n_c4_c11
  replace h_c5 := h_c5.gx G20 n_c5_c11
  replace h_c6 := h_c6.gx G20 n_c6_c11
  replace h_c7 := h_c7.gx G20 n_c7_c11
  replace h_c8 := h_c8.gx G20 n_c8_c11
  replace h_c9 := h_c9.gx G20 n_c9_c11
  replace h_c10 := h_c10.gx G20 n_c10_c11
  have Gt20 : GX (fun z => z = a) S S20 := GX.tr Gt19 G20 (fun z hz e => absurd hz (e ▸ f_c11))
  clear Gt19
  have h_c11 : OB S20 c11 2 (fun _ => none) (fun _ => 0) := by rw [eS20]; exact ob_new
  replace Nn := Nn.c q_c11 G20 h_c11.1.1
  clear G20 eS20
  refine V_dup (pc := 98) dX8_init_98 rfl ?_
  refine V_cIv (pc := 99) (jc_X8_50 dX8_init_99 rfl) rfl (Nat.le_of_ble_eq_true rfl) (Nat.le_of_ble_eq_true rfl) (Nat.le_of_ble_eq_true rfl) ?_
  refine i_X2 h_c11 (fun c12 S21 G21 q_c12  h_N h_c12 => ?_)
  refine bd_V (c := 26) (s := 256) rfl rfl ?_
  have f_c12 : c12 ∉ gL S := GX.out Gt20 q_c12
  have n_c12_a : c12 ≠ a := fun e => q_c12 (by rw [e]; exact h_a.1.1)
  have n_lv_c12 : ∀ i, wIx i → lv i ≠ c12 := fun i hi e => q_c12 (e ▸ (h_lv.1 i hi).1)
  have n_im_c12 : ∀ i, wIx i → im i ≠ c12 := fun i hi e => q_c12 (e ▸ (h_im.1 i hi).1)
  have n_tr_c12 : ∀ i, wIx i → tr i ≠ c12 := fun i hi e => q_c12 (e ▸ (h_tr.1 i hi).1)
  have n_c12_c8 : c12 ≠ c8 := fun e => q_c12 (by rw [e]; exact h_c8.1.1)
  have n_c12_c9 : c12 ≠ c9 := fun e => q_c12 (by rw [e]; exact h_c9.1.1)
  replace h_a := h_a.gx G21 n_a_c11
  replace h_lv := h_lv.gx G21 n_lv_c11
  replace h_im := h_im.gx G21 n_im_c11
  replace h_tr := h_tr.gx G21 n_tr_c11
  replace h_c4 := h_c4.gx G21 n_c4_c11
  replace h_c5 := h_c5.gx G21 n_c5_c11
  replace h_c6 := h_c6.gx G21 n_c6_c11
  replace h_c7 := h_c7.gx G21 n_c7_c11
  replace h_c8 := h_c8.gx G21 n_c8_c11
  replace h_c9 := h_c9.gx G21 n_c9_c11
  replace h_c10 := h_c10.gx G21 n_c10_c11
  have Gt21 : GX (fun z => z = a) S S21 := GX.tr Gt20 G21 (fun z hz e => absurd hz (e ▸ f_c11))
  clear Gt20
  clear h_c11
  have h_c11 := h_N
  clear h_N
  have Nno := Nn
  clear Nn
  have Nn := Nno.c q_c12 G21 h_c12.1.1
  clear Nno
  clear G21 q_c12 f_c12
  refine V_aas (pc := 102) (N := 4) 11 2 0 dX8_init_102 (by decide) (by decide) (by decide) rfl h_c8.1 h_c11.1 h_c8.2.1 (by decide) (by first | rfl | decide) (by decide) ?_
  obtain ⟨S22, eS22⟩ : ∃ Z, Z = sY S21 c8 (va_up (gY S21 c8) 0 (some c11)) := ⟨_, rfl⟩
  rw [← eS22]
  have G22 : GX (fun z => z = c8) S21 S22 := by rw [eS22]; exact gx_sY
  replace h_a := h_a.gx G22 n_a_c8
  replace h_lv := h_lv.gx G22 n_lv_c8
  replace h_im := h_im.gx G22 n_im_c8
  replace h_tr := h_tr.gx G22 n_tr_c8
  replace h_c4 := h_c4.gx G22 n_c4_c8
  replace h_c5 := h_c5.gx G22 n_c5_c8
  replace h_c6 := h_c6.gx G22 n_c6_c8
  replace h_c7 := h_c7.gx G22 n_c7_c8
  replace h_c9 := h_c9.gx G22 n_c9_c8
  replace h_c10 := h_c10.gx G22 n_c10_c8
  replace h_c11 := h_c11.gx G22 n_c11_c8
  replace h_c12 := h_c12.gx G22 n_c12_c8
  have Gt22 : GX (fun z => z = a) S S22 := GX.tr Gt21 G22 (fun z hz e => absurd hz (e ▸ f_c8))
  clear Gt21
  replace Nn := Nn.gx G22
  replace h_c8 : RA S22 c8 11 4 (va_up (fun _ => none) 0 (some c11)) := by rw [eS22]; exact h_c8.w
  clear G22 eS22
  clear n_a_c11 n_c4_c11 n_c5_c11 n_c6_c11 n_c7_c11 n_c8_c11 n_c9_c11 n_c10_c11 q_c11 f_c11
  refine V_inc (pc := 103) (fun y => [(0, .ref a), (1, .int y)]) (w := 1) dX8_init_103 (by decide) (by decide) rfl (fun _ => rfl) (fun y103 ey103 => ?_)
  obtain rfl : y103 = nI 1 := by rw [ey103]; exact nI_1 _
  refine V_goto (pc := 106) (t := 85) dX8_init_106 (by decide) ?_
  refine V_iln (pc := 85) dX8_init_85 rfl rfl ?_
  refine V_iconst (pc := 86) (v := 4) dX8_init_86 (by decide) ?_
  refine V_cge (pc := 87) (t := 109) dX8_init_87 (by decide) (fun h => absurd h (by decide)) (fun _ => ?_)
  refine V_aln (pc := 90) dX8_init_90 rfl rfl ?_
  refine V_gr (pc := 91) 8 6 262 dX8_init_91 (FL_X8_36 rfl) rfl rfl h_a.1 ((h_a.2.1 262).trans rfl) ?_
  refine V_iln (pc := 94) dX8_init_94 rfl rfl ?_
  refine V_new (pc := 95) (jn_X8_34 dX8_init_95 rfl) (Nat.le_of_ble_eq_true rfl) (Nat.le_of_ble_eq_true rfl) (fun c13 q_c13 => ?_)
  refine bd_V (c := 25) (s := 253) rfl rfl ?_
  obtain ⟨S23, eS23⟩ : ∃ Z, Z = nO S22 c13 2 := ⟨_, rfl⟩
  rw [← eS23]
  have G23 : GX (fun z => z = c13) S22 S23 := by rw [eS23]; exact gx_O q_c13 (by decide)
  have f_c13 : c13 ∉ gL S := GX.out Gt22 q_c13
  have n_a_c13 : a ≠ c13 := fun e => q_c13 (e ▸ h_a.1.1)
  have n_c13_a := n_a_c13.symm
  have n_lv_c13 : ∀ i, wIx i → lv i ≠ c13 := fun i hi e => q_c13 (e ▸ (h_lv.1 i hi).1)
  have n_im_c13 : ∀ i, wIx i → im i ≠ c13 := fun i hi e => q_c13 (e ▸ (h_im.1 i hi).1)
  have n_tr_c13 : ∀ i, wIx i → tr i ≠ c13 := fun i hi e => q_c13 (e ▸ (h_tr.1 i hi).1)
  have n_c4_c13 : c4 ≠ c13 := fun e => q_c13 (e ▸ h_c4.1.1)
  have n_c5_c13 : c5 ≠ c13 := fun e => q_c13 (e ▸ h_c5.1.1)
  have n_c6_c13 : c6 ≠ c13 := fun e => q_c13 (e ▸ h_c6.1.1)
  have n_c7_c13 : c7 ≠ c13 := fun e => q_c13 (e ▸ h_c7.1.1)
  have n_c8_c13 : c8 ≠ c13 := fun e => q_c13 (e ▸ h_c8.1.1)
  have n_c13_c8 := n_c8_c13.symm
  have n_c9_c13 : c9 ≠ c13 := fun e => q_c13 (e ▸ h_c9.1.1)
  have n_c13_c9 := n_c9_c13.symm
  have n_c10_c13 : c10 ≠ c13 := fun e => q_c13 (e ▸ h_c10.1.1)
  have n_c11_c13 : c11 ≠ c13 := fun e => q_c13 (e ▸ h_c11.1.1)
  have n_c12_c13 : c12 ≠ c13 := fun e => q_c13 (e ▸ h_c12.1.1)
  replace h_a := h_a.gx G23 n_a_c13
  replace h_lv := h_lv.gx G23 n_lv_c13
  replace h_im := h_im.gx G23 n_im_c13
  replace h_tr := h_tr.gx G23 n_tr_c13
  replace h_c4 := h_c4.gx G23 n_c4_c13
  replace h_c5 := h_c5.gx G23 n_c5_c13
  replace h_c6 := h_c6.gx G23 n_c6_c13
  replace h_c7 := h_c7.gx G23 n_c7_c13
  replace h_c8 := h_c8.gx G23 n_c8_c13
  replace h_c9 := h_c9.gx G23 n_c9_c13
  replace h_c10 := h_c10.gx G23 n_c10_c13
  replace h_c11 := h_c11.gx G23 n_c11_c13
  replace h_c12 := h_c12.gx G23 n_c12_c13
  have Gt23 : GX (fun z => z = a) S S23 := GX.tr Gt22 G23 (fun z hz e => absurd hz (e ▸ f_c13))
  clear Gt22
  have h_c13 : OB S23 c13 2 (fun _ => none) (fun _ => 0) := by rw [eS23]; exact ob_new
  replace Nn := Nn.c q_c13 G23 h_c13.1.1
  clear G23 eS23
  refine V_dup (pc := 98) dX8_init_98 rfl ?_
  refine V_cIv (pc := 99) (jc_X8_50 dX8_init_99 rfl) rfl (Nat.le_of_ble_eq_true rfl) (Nat.le_of_ble_eq_true rfl) (Nat.le_of_ble_eq_true rfl) ?_
  refine i_X2 h_c13 (fun c14 S24 G24 q_c14  h_N h_c14 => ?_)
  refine bd_V (c := 24) (s := 229) rfl rfl ?_
  have f_c14 : c14 ∉ gL S := GX.out Gt23 q_c14
  have n_c14_a : c14 ≠ a := fun e => q_c14 (by rw [e]; exact h_a.1.1)
  have n_lv_c14 : ∀ i, wIx i → lv i ≠ c14 := fun i hi e => q_c14 (e ▸ (h_lv.1 i hi).1)
  have n_im_c14 : ∀ i, wIx i → im i ≠ c14 := fun i hi e => q_c14 (e ▸ (h_im.1 i hi).1)
  have n_tr_c14 : ∀ i, wIx i → tr i ≠ c14 := fun i hi e => q_c14 (e ▸ (h_tr.1 i hi).1)
  have n_c14_c8 : c14 ≠ c8 := fun e => q_c14 (by rw [e]; exact h_c8.1.1)
  have n_c14_c9 : c14 ≠ c9 := fun e => q_c14 (by rw [e]; exact h_c9.1.1)
  replace h_a := h_a.gx G24 n_a_c13
  replace h_lv := h_lv.gx G24 n_lv_c13
  replace h_im := h_im.gx G24 n_im_c13
  replace h_tr := h_tr.gx G24 n_tr_c13
  replace h_c4 := h_c4.gx G24 n_c4_c13
  replace h_c5 := h_c5.gx G24 n_c5_c13
  replace h_c6 := h_c6.gx G24 n_c6_c13
  replace h_c7 := h_c7.gx G24 n_c7_c13
  replace h_c8 := h_c8.gx G24 n_c8_c13
  replace h_c9 := h_c9.gx G24 n_c9_c13
  replace h_c10 := h_c10.gx G24 n_c10_c13
  replace h_c11 := h_c11.gx G24 n_c11_c13
  replace h_c12 := h_c12.gx G24 n_c12_c13
  have Gt24 : GX (fun z => z = a) S S24 := GX.tr Gt23 G24 (fun z hz e => absurd hz (e ▸ f_c13))
  clear Gt23
  clear h_c13
  have h_c13 := h_N
  clear h_N
  have Nno := Nn
  clear Nn
  have Nn := Nno.c q_c14 G24 h_c14.1.1
  clear Nno
  clear G24 q_c14 f_c14
  refine V_aas (pc := 102) (N := 4) 11 2 1 dX8_init_102 (by decide) (by decide) (by decide) rfl h_c8.1 h_c13.1 h_c8.2.1 (by decide) (by first | rfl | decide) (by decide) ?_
  obtain ⟨S25, eS25⟩ : ∃ Z, Z = sY S24 c8 (va_up (gY S24 c8) 1 (some c13)) := ⟨_, rfl⟩
  rw [← eS25]
  have G25 : GX (fun z => z = c8) S24 S25 := by rw [eS25]; exact gx_sY
  replace h_a := h_a.gx G25 n_a_c8
  replace h_lv := h_lv.gx G25 n_lv_c8
  replace h_im := h_im.gx G25 n_im_c8
  replace h_tr := h_tr.gx G25 n_tr_c8
  replace h_c4 := h_c4.gx G25 n_c4_c8
  replace h_c5 := h_c5.gx G25 n_c5_c8
  replace h_c6 := h_c6.gx G25 n_c6_c8
  replace h_c7 := h_c7.gx G25 n_c7_c8
  replace h_c9 := h_c9.gx G25 n_c9_c8
  replace h_c10 := h_c10.gx G25 n_c10_c8
  replace h_c11 := h_c11.gx G25 n_c11_c8
  replace h_c12 := h_c12.gx G25 n_c12_c8
  replace h_c13 := h_c13.gx G25 n_c13_c8
  replace h_c14 := h_c14.gx G25 n_c14_c8
  have Gt25 : GX (fun z => z = a) S S25 := GX.tr Gt24 G25 (fun z hz e => absurd hz (e ▸ f_c8))
  clear Gt24
  replace Nn := Nn.gx G25
  replace h_c8 : RA S25 c8 11 4 (va_up (va_up (fun _ => none) 0 (some c11)) 1 (some c13)) := by rw [eS25]; exact h_c8.w
  clear G25 eS25
  clear n_a_c13 n_c4_c13 n_c5_c13 n_c6_c13 n_c7_c13 n_c8_c13 n_c9_c13 n_c10_c13 n_c11_c13 n_c12_c13 q_c13 f_c13
  refine V_inc (pc := 103) (fun y => [(0, .ref a), (1, .int y)]) (w := 1) dX8_init_103 (by decide) (by decide) rfl (fun _ => rfl) (fun y103 ey103 => ?_)
  obtain rfl : y103 = nI 2 := by rw [ey103]; exact nI_1 _
  refine V_goto (pc := 106) (t := 85) dX8_init_106 (by decide) ?_
  refine V_iln (pc := 85) dX8_init_85 rfl rfl ?_
  refine V_iconst (pc := 86) (v := 4) dX8_init_86 (by decide) ?_
  refine V_cge (pc := 87) (t := 109) dX8_init_87 (by decide) (fun h => absurd h (by decide)) (fun _ => ?_)
  refine V_aln (pc := 90) dX8_init_90 rfl rfl ?_
  refine V_gr (pc := 91) 8 6 262 dX8_init_91 (FL_X8_36 rfl) rfl rfl h_a.1 ((h_a.2.1 262).trans rfl) ?_
  refine V_iln (pc := 94) dX8_init_94 rfl rfl ?_
  refine V_new (pc := 95) (jn_X8_34 dX8_init_95 rfl) (Nat.le_of_ble_eq_true rfl) (Nat.le_of_ble_eq_true rfl) (fun c15 q_c15 => ?_)
  refine bd_V (c := 23) (s := 226) rfl rfl ?_
  obtain ⟨S26, eS26⟩ : ∃ Z, Z = nO S25 c15 2 := ⟨_, rfl⟩
  rw [← eS26]
  have G26 : GX (fun z => z = c15) S25 S26 := by rw [eS26]; exact gx_O q_c15 (by decide)
  have f_c15 : c15 ∉ gL S := GX.out Gt25 q_c15
  have n_a_c15 : a ≠ c15 := fun e => q_c15 (e ▸ h_a.1.1)
  have n_c15_a := n_a_c15.symm
  have n_lv_c15 : ∀ i, wIx i → lv i ≠ c15 := fun i hi e => q_c15 (e ▸ (h_lv.1 i hi).1)
  have n_im_c15 : ∀ i, wIx i → im i ≠ c15 := fun i hi e => q_c15 (e ▸ (h_im.1 i hi).1)
  have n_tr_c15 : ∀ i, wIx i → tr i ≠ c15 := fun i hi e => q_c15 (e ▸ (h_tr.1 i hi).1)
  have n_c4_c15 : c4 ≠ c15 := fun e => q_c15 (e ▸ h_c4.1.1)
  have n_c5_c15 : c5 ≠ c15 := fun e => q_c15 (e ▸ h_c5.1.1)
  have n_c6_c15 : c6 ≠ c15 := fun e => q_c15 (e ▸ h_c6.1.1)
  have n_c7_c15 : c7 ≠ c15 := fun e => q_c15 (e ▸ h_c7.1.1)
  have n_c8_c15 : c8 ≠ c15 := fun e => q_c15 (e ▸ h_c8.1.1)
  have n_c15_c8 := n_c8_c15.symm
  have n_c9_c15 : c9 ≠ c15 := fun e => q_c15 (e ▸ h_c9.1.1)
  have n_c15_c9 := n_c9_c15.symm
  have n_c10_c15 : c10 ≠ c15 := fun e => q_c15 (e ▸ h_c10.1.1)
  have n_c11_c15 : c11 ≠ c15 := fun e => q_c15 (e ▸ h_c11.1.1)
  have n_c12_c15 : c12 ≠ c15 := fun e => q_c15 (e ▸ h_c12.1.1)
  have n_c13_c15 : c13 ≠ c15 := fun e => q_c15 (e ▸ h_c13.1.1)
  have n_c14_c15 : c14 ≠ c15 := fun e => q_c15 (e ▸ h_c14.1.1)
  replace h_a := h_a.gx G26 n_a_c15
  replace h_lv := h_lv.gx G26 n_lv_c15
  replace h_im := h_im.gx G26 n_im_c15
  replace h_tr := h_tr.gx G26 n_tr_c15
  replace h_c4 := h_c4.gx G26 n_c4_c15
  replace h_c5 := h_c5.gx G26 n_c5_c15
  replace h_c6 := h_c6.gx G26 n_c6_c15
  replace h_c7 := h_c7.gx G26 n_c7_c15
  replace h_c8 := h_c8.gx G26 n_c8_c15
  replace h_c9 := h_c9.gx G26 n_c9_c15
  replace h_c10 := h_c10.gx G26 n_c10_c15
  replace h_c11 := h_c11.gx G26 n_c11_c15
  replace h_c12 := h_c12.gx G26 n_c12_c15
  replace h_c13 := h_c13.gx G26 n_c13_c15
  replace h_c14 := h_c14.gx G26 n_c14_c15
  have Gt26 : GX (fun z => z = a) S S26 := GX.tr Gt25 G26 (fun z hz e => absurd hz (e ▸ f_c15))
  clear Gt25
  have h_c15 : OB S26 c15 2 (fun _ => none) (fun _ => 0) := by rw [eS26]; exact ob_new
  replace Nn := Nn.c q_c15 G26 h_c15.1.1
  clear G26 eS26
  refine V_dup (pc := 98) dX8_init_98 rfl ?_
  refine V_cIv (pc := 99) (jc_X8_50 dX8_init_99 rfl) rfl (Nat.le_of_ble_eq_true rfl) (Nat.le_of_ble_eq_true rfl) (Nat.le_of_ble_eq_true rfl) ?_
  refine i_X2 h_c15 (fun c16 S27 G27 q_c16  h_N h_c16 => ?_)
  refine bd_V (c := 22) (s := 202) rfl rfl ?_
  have f_c16 : c16 ∉ gL S := GX.out Gt26 q_c16
  have n_c16_a : c16 ≠ a := fun e => q_c16 (by rw [e]; exact h_a.1.1)
  have n_lv_c16 : ∀ i, wIx i → lv i ≠ c16 := fun i hi e => q_c16 (e ▸ (h_lv.1 i hi).1)
  have n_im_c16 : ∀ i, wIx i → im i ≠ c16 := fun i hi e => q_c16 (e ▸ (h_im.1 i hi).1)
  have n_tr_c16 : ∀ i, wIx i → tr i ≠ c16 := fun i hi e => q_c16 (e ▸ (h_tr.1 i hi).1)
  have n_c16_c8 : c16 ≠ c8 := fun e => q_c16 (by rw [e]; exact h_c8.1.1)
  have n_c16_c9 : c16 ≠ c9 := fun e => q_c16 (by rw [e]; exact h_c9.1.1)
  replace h_a := h_a.gx G27 n_a_c15
  replace h_lv := h_lv.gx G27 n_lv_c15
  replace h_im := h_im.gx G27 n_im_c15
  replace h_tr := h_tr.gx G27 n_tr_c15
  replace h_c4 := h_c4.gx G27 n_c4_c15
  replace h_c5 := h_c5.gx G27 n_c5_c15
  replace h_c6 := h_c6.gx G27 n_c6_c15
  replace h_c7 := h_c7.gx G27 n_c7_c15
  replace h_c8 := h_c8.gx G27 n_c8_c15
  replace h_c9 := h_c9.gx G27 n_c9_c15
  replace h_c10 := h_c10.gx G27 n_c10_c15
  replace h_c11 := h_c11.gx G27 n_c11_c15
  replace h_c12 := h_c12.gx G27 n_c12_c15
  replace h_c13 := h_c13.gx G27 n_c13_c15
  replace h_c14 := h_c14.gx G27 n_c14_c15
  have Gt27 : GX (fun z => z = a) S S27 := GX.tr Gt26 G27 (fun z hz e => absurd hz (e ▸ f_c15))
  clear Gt26
  clear h_c15
  have h_c15 := h_N
  clear h_N
  have Nno := Nn
  clear Nn
  have Nn := Nno.c q_c16 G27 h_c16.1.1
  clear Nno
  clear G27 q_c16 f_c16
  refine V_aas (pc := 102) (N := 4) 11 2 2 dX8_init_102 (by decide) (by decide) (by decide) rfl h_c8.1 h_c15.1 h_c8.2.1 (by decide) (by first | rfl | decide) (by decide) ?_
  obtain ⟨S28, eS28⟩ : ∃ Z, Z = sY S27 c8 (va_up (gY S27 c8) 2 (some c15)) := ⟨_, rfl⟩
  rw [← eS28]
  have G28 : GX (fun z => z = c8) S27 S28 := by rw [eS28]; exact gx_sY
  replace h_a := h_a.gx G28 n_a_c8
  replace h_lv := h_lv.gx G28 n_lv_c8
  replace h_im := h_im.gx G28 n_im_c8
  replace h_tr := h_tr.gx G28 n_tr_c8
  replace h_c4 := h_c4.gx G28 n_c4_c8
  replace h_c5 := h_c5.gx G28 n_c5_c8
  replace h_c6 := h_c6.gx G28 n_c6_c8
  replace h_c7 := h_c7.gx G28 n_c7_c8
  replace h_c9 := h_c9.gx G28 n_c9_c8
  replace h_c10 := h_c10.gx G28 n_c10_c8
  replace h_c11 := h_c11.gx G28 n_c11_c8
  replace h_c12 := h_c12.gx G28 n_c12_c8
  replace h_c13 := h_c13.gx G28 n_c13_c8
  replace h_c14 := h_c14.gx G28 n_c14_c8
  replace h_c15 := h_c15.gx G28 n_c15_c8
  replace h_c16 := h_c16.gx G28 n_c16_c8
  have Gt28 : GX (fun z => z = a) S S28 := GX.tr Gt27 G28 (fun z hz e => absurd hz (e ▸ f_c8))
  clear Gt27
  replace Nn := Nn.gx G28
  replace h_c8 : RA S28 c8 11 4 (va_up (va_up (va_up (fun _ => none) 0 (some c11)) 1 (some c13)) 2 (some c15)) := by rw [eS28]; exact h_c8.w
  clear G28 eS28
  clear n_a_c15 n_c4_c15 n_c5_c15 n_c6_c15 n_c7_c15 n_c8_c15 n_c9_c15 n_c10_c15 n_c11_c15 n_c12_c15 n_c13_c15 n_c14_c15 q_c15 f_c15
  refine V_inc (pc := 103) (fun y => [(0, .ref a), (1, .int y)]) (w := 1) dX8_init_103 (by decide) (by decide) rfl (fun _ => rfl) (fun y103 ey103 => ?_)
  obtain rfl : y103 = nI 3 := by rw [ey103]; exact nI_1 _
  refine V_goto (pc := 106) (t := 85) dX8_init_106 (by decide) ?_
  refine V_iln (pc := 85) dX8_init_85 rfl rfl ?_
  refine V_iconst (pc := 86) (v := 4) dX8_init_86 (by decide) ?_
  refine V_cge (pc := 87) (t := 109) dX8_init_87 (by decide) (fun h => absurd h (by decide)) (fun _ => ?_)
  refine V_aln (pc := 90) dX8_init_90 rfl rfl ?_
  refine V_gr (pc := 91) 8 6 262 dX8_init_91 (FL_X8_36 rfl) rfl rfl h_a.1 ((h_a.2.1 262).trans rfl) ?_
  refine V_iln (pc := 94) dX8_init_94 rfl rfl ?_
  refine V_new (pc := 95) (jn_X8_34 dX8_init_95 rfl) (Nat.le_of_ble_eq_true rfl) (Nat.le_of_ble_eq_true rfl) (fun c17 q_c17 => ?_)
  refine bd_V (c := 21) (s := 199) rfl rfl ?_
  obtain ⟨S29, eS29⟩ : ∃ Z, Z = nO S28 c17 2 := ⟨_, rfl⟩
  rw [← eS29]
  have G29 : GX (fun z => z = c17) S28 S29 := by rw [eS29]; exact gx_O q_c17 (by decide)
  have f_c17 : c17 ∉ gL S := GX.out Gt28 q_c17
  have n_a_c17 : a ≠ c17 := fun e => q_c17 (e ▸ h_a.1.1)
  have n_c17_a := n_a_c17.symm
  have n_lv_c17 : ∀ i, wIx i → lv i ≠ c17 := fun i hi e => q_c17 (e ▸ (h_lv.1 i hi).1)
  have n_im_c17 : ∀ i, wIx i → im i ≠ c17 := fun i hi e => q_c17 (e ▸ (h_im.1 i hi).1)
  have n_tr_c17 : ∀ i, wIx i → tr i ≠ c17 := fun i hi e => q_c17 (e ▸ (h_tr.1 i hi).1)
  have n_c4_c17 : c4 ≠ c17 := fun e => q_c17 (e ▸ h_c4.1.1)
  have n_c5_c17 : c5 ≠ c17 := fun e => q_c17 (e ▸ h_c5.1.1)
  have n_c6_c17 : c6 ≠ c17 := fun e => q_c17 (e ▸ h_c6.1.1)
  have n_c7_c17 : c7 ≠ c17 := fun e => q_c17 (e ▸ h_c7.1.1)
  have n_c8_c17 : c8 ≠ c17 := fun e => q_c17 (e ▸ h_c8.1.1)
  have n_c17_c8 := n_c8_c17.symm
  have n_c9_c17 : c9 ≠ c17 := fun e => q_c17 (e ▸ h_c9.1.1)
  have n_c17_c9 := n_c9_c17.symm
  have n_c10_c17 : c10 ≠ c17 := fun e => q_c17 (e ▸ h_c10.1.1)
  have n_c11_c17 : c11 ≠ c17 := fun e => q_c17 (e ▸ h_c11.1.1)
  have n_c12_c17 : c12 ≠ c17 := fun e => q_c17 (e ▸ h_c12.1.1)
  have n_c13_c17 : c13 ≠ c17 := fun e => q_c17 (e ▸ h_c13.1.1)
  have n_c14_c17 : c14 ≠ c17 := fun e => q_c17 (e ▸ h_c14.1.1)
  have n_c15_c17 : c15 ≠ c17 := fun e => q_c17 (e ▸ h_c15.1.1)
  have n_c16_c17 : c16 ≠ c17 := fun e => q_c17 (e ▸ h_c16.1.1)
  replace h_a := h_a.gx G29 n_a_c17
  replace h_lv := h_lv.gx G29 n_lv_c17
  replace h_im := h_im.gx G29 n_im_c17
  replace h_tr := h_tr.gx G29 n_tr_c17
  replace h_c4 := h_c4.gx G29 n_c4_c17
  replace h_c5 := h_c5.gx G29 n_c5_c17
  replace h_c6 := h_c6.gx G29 n_c6_c17
  replace h_c7 := h_c7.gx G29 n_c7_c17
  replace h_c8 := h_c8.gx G29 n_c8_c17
  replace h_c9 := h_c9.gx G29 n_c9_c17
  replace h_c10 := h_c10.gx G29 n_c10_c17
  replace h_c11 := h_c11.gx G29 n_c11_c17
  replace h_c12 := h_c12.gx G29 n_c12_c17
  replace h_c13 := h_c13.gx G29 n_c13_c17
  replace h_c14 := h_c14.gx G29 n_c14_c17
  replace h_c15 := h_c15.gx G29 n_c15_c17
  replace h_c16 := h_c16.gx G29 n_c16_c17
  have Gt29 : GX (fun z => z = a) S S29 := GX.tr Gt28 G29 (fun z hz e => absurd hz (e ▸ f_c17))
  clear Gt28
  have h_c17 : OB S29 c17 2 (fun _ => none) (fun _ => 0) := by rw [eS29]; exact ob_new
  replace Nn := Nn.c q_c17 G29 h_c17.1.1
  clear G29 eS29
  refine V_dup (pc := 98) dX8_init_98 rfl ?_
  refine V_cIv (pc := 99) (jc_X8_50 dX8_init_99 rfl) rfl (Nat.le_of_ble_eq_true rfl) (Nat.le_of_ble_eq_true rfl) (Nat.le_of_ble_eq_true rfl) ?_
  refine i_X2 h_c17 (fun c18 S30 G30 q_c18  h_N h_c18 => ?_)
  refine bd_V (c := 20) (s := 175) rfl rfl ?_
  have f_c18 : c18 ∉ gL S := GX.out Gt29 q_c18
  have n_c18_a : c18 ≠ a := fun e => q_c18 (by rw [e]; exact h_a.1.1)
  have n_lv_c18 : ∀ i, wIx i → lv i ≠ c18 := fun i hi e => q_c18 (e ▸ (h_lv.1 i hi).1)
  have n_im_c18 : ∀ i, wIx i → im i ≠ c18 := fun i hi e => q_c18 (e ▸ (h_im.1 i hi).1)
  have n_tr_c18 : ∀ i, wIx i → tr i ≠ c18 := fun i hi e => q_c18 (e ▸ (h_tr.1 i hi).1)
  have n_c18_c8 : c18 ≠ c8 := fun e => q_c18 (by rw [e]; exact h_c8.1.1)
  have n_c18_c9 : c18 ≠ c9 := fun e => q_c18 (by rw [e]; exact h_c9.1.1)
  replace h_a := h_a.gx G30 n_a_c17
  replace h_lv := h_lv.gx G30 n_lv_c17
  replace h_im := h_im.gx G30 n_im_c17
  replace h_tr := h_tr.gx G30 n_tr_c17
  replace h_c4 := h_c4.gx G30 n_c4_c17
  replace h_c5 := h_c5.gx G30 n_c5_c17
  replace h_c6 := h_c6.gx G30 n_c6_c17
  replace h_c7 := h_c7.gx G30 n_c7_c17
  replace h_c8 := h_c8.gx G30 n_c8_c17
  replace h_c9 := h_c9.gx G30 n_c9_c17
  replace h_c10 := h_c10.gx G30 n_c10_c17
  replace h_c11 := h_c11.gx G30 n_c11_c17
  replace h_c12 := h_c12.gx G30 n_c12_c17
  replace h_c13 := h_c13.gx G30 n_c13_c17
  replace h_c14 := h_c14.gx G30 n_c14_c17
  replace h_c15 := h_c15.gx G30 n_c15_c17
  replace h_c16 := h_c16.gx G30 n_c16_c17
  have Gt30 : GX (fun z => z = a) S S30 := GX.tr Gt29 G30 (fun z hz e => absurd hz (e ▸ f_c17))
  clear Gt29
  clear h_c17
  have h_c17 := h_N
  clear h_N
  have Nno := Nn
  clear Nn
  have Nn := Nno.c q_c18 G30 h_c18.1.1
  clear Nno
  clear G30 q_c18 f_c18
  refine V_aas (pc := 102) (N := 4) 11 2 3 dX8_init_102 (by decide) (by decide) (by decide) rfl h_c8.1 h_c17.1 h_c8.2.1 (by decide) (by first | rfl | decide) (by decide) ?_
  obtain ⟨S31, eS31⟩ : ∃ Z, Z = sY S30 c8 (va_up (gY S30 c8) 3 (some c17)) := ⟨_, rfl⟩
  rw [← eS31]
  have G31 : GX (fun z => z = c8) S30 S31 := by rw [eS31]; exact gx_sY
  replace h_a := h_a.gx G31 n_a_c8
  replace h_lv := h_lv.gx G31 n_lv_c8
  replace h_im := h_im.gx G31 n_im_c8
  replace h_tr := h_tr.gx G31 n_tr_c8
  replace h_c4 := h_c4.gx G31 n_c4_c8
  replace h_c5 := h_c5.gx G31 n_c5_c8
  replace h_c6 := h_c6.gx G31 n_c6_c8
  replace h_c7 := h_c7.gx G31 n_c7_c8
  replace h_c9 := h_c9.gx G31 n_c9_c8
  replace h_c10 := h_c10.gx G31 n_c10_c8
  replace h_c11 := h_c11.gx G31 n_c11_c8
  replace h_c12 := h_c12.gx G31 n_c12_c8
  replace h_c13 := h_c13.gx G31 n_c13_c8
  replace h_c14 := h_c14.gx G31 n_c14_c8
  replace h_c15 := h_c15.gx G31 n_c15_c8
  replace h_c16 := h_c16.gx G31 n_c16_c8
  replace h_c17 := h_c17.gx G31 n_c17_c8
  replace h_c18 := h_c18.gx G31 n_c18_c8
  have Gt31 : GX (fun z => z = a) S S31 := GX.tr Gt30 G31 (fun z hz e => absurd hz (e ▸ f_c8))
  clear Gt30
  replace Nn := Nn.gx G31
  replace h_c8 : RA S31 c8 11 4 (va_up (va_up (va_up (va_up (fun _ => none) 0 (some c11)) 1 (some c13)) 2 (some c15)) 3 (some c17)) := by rw [eS31]; exact h_c8.w
  clear G31 eS31
  clear n_a_c17 n_c4_c17 n_c5_c17 n_c6_c17 n_c7_c17 n_c8_c17 n_c9_c17 n_c10_c17 n_c11_c17 n_c12_c17 n_c13_c17 n_c14_c17 n_c15_c17 n_c16_c17 q_c17 f_c17
  refine V_inc (pc := 103) (fun y => [(0, .ref a), (1, .int y)]) (w := 1) dX8_init_103 (by decide) (by decide) rfl (fun _ => rfl) (fun y103 ey103 => ?_)
  obtain rfl : y103 = nI 4 := by rw [ey103]; exact nI_1 _
  refine V_goto (pc := 106) (t := 85) dX8_init_106 (by decide) ?_
  refine V_iln (pc := 85) dX8_init_85 rfl rfl ?_
  refine V_iconst (pc := 86) (v := 4) dX8_init_86 (by decide) ?_
  refine V_cge (pc := 87) (t := 109) dX8_init_87 (by decide) (fun _ => ?_) (fun h => absurd h (by decide))
  refine V_iconst (pc := 109) (v := 0) dX8_init_109 (by decide) ?_
  refine V_isn (pc := 110) (fun y => [(0, .ref a), (1, .int y)]) dX8_init_110 rfl (by decide) (fun _ => rfl) (fun y110 ey110 => ?_)
  obtain rfl : y110 = nI 0 := ey110
  refine V_iln (pc := 111) dX8_init_111 rfl rfl ?_
  refine V_iconst (pc := 112) (v := 5) dX8_init_112 (by decide) ?_
  refine V_cge (pc := 113) (t := 135) dX8_init_113 (by decide) (fun h => absurd h (by decide)) (fun _ => ?_)
  refine V_aln (pc := 116) dX8_init_116 rfl rfl ?_
  refine V_gr (pc := 117) 8 7 263 dX8_init_117 (FL_X8_42 rfl) rfl rfl h_a.1 ((h_a.2.1 263).trans rfl) ?_
  refine V_iln (pc := 120) dX8_init_120 rfl rfl ?_
  refine V_new (pc := 121) (jn_X8_40 dX8_init_121 rfl) (Nat.le_of_ble_eq_true rfl) (Nat.le_of_ble_eq_true rfl) (fun c19 q_c19 => ?_)
  refine bd_V (c := 19) (s := 171) rfl rfl ?_
  obtain ⟨S32, eS32⟩ : ∃ Z, Z = nO S31 c19 3 := ⟨_, rfl⟩
  rw [← eS32]
  have G32 : GX (fun z => z = c19) S31 S32 := by rw [eS32]; exact gx_O q_c19 (by decide)
  have f_c19 : c19 ∉ gL S := GX.out Gt31 q_c19
  have n_a_c19 : a ≠ c19 := fun e => q_c19 (e ▸ h_a.1.1)
  have n_c19_a := n_a_c19.symm
  have n_lv_c19 : ∀ i, wIx i → lv i ≠ c19 := fun i hi e => q_c19 (e ▸ (h_lv.1 i hi).1)
  have n_im_c19 : ∀ i, wIx i → im i ≠ c19 := fun i hi e => q_c19 (e ▸ (h_im.1 i hi).1)
  have n_tr_c19 : ∀ i, wIx i → tr i ≠ c19 := fun i hi e => q_c19 (e ▸ (h_tr.1 i hi).1)
  have n_c4_c19 : c4 ≠ c19 := fun e => q_c19 (e ▸ h_c4.1.1)
  have n_c5_c19 : c5 ≠ c19 := fun e => q_c19 (e ▸ h_c5.1.1)
  have n_c6_c19 : c6 ≠ c19 := fun e => q_c19 (e ▸ h_c6.1.1)
  have n_c7_c19 : c7 ≠ c19 := fun e => q_c19 (e ▸ h_c7.1.1)
  have n_c8_c19 : c8 ≠ c19 := fun e => q_c19 (e ▸ h_c8.1.1)
  have n_c19_c8 := n_c8_c19.symm
  have n_c9_c19 : c9 ≠ c19 := fun e => q_c19 (e ▸ h_c9.1.1)
  have n_c19_c9 := n_c9_c19.symm
  have n_c10_c19 : c10 ≠ c19 := fun e => q_c19 (e ▸ h_c10.1.1)
  have n_c11_c19 : c11 ≠ c19 := fun e => q_c19 (e ▸ h_c11.1.1)
  have n_c12_c19 : c12 ≠ c19 := fun e => q_c19 (e ▸ h_c12.1.1)
  have n_c13_c19 : c13 ≠ c19 := fun e => q_c19 (e ▸ h_c13.1.1)
  have n_c14_c19 : c14 ≠ c19 := fun e => q_c19 (e ▸ h_c14.1.1)
  have n_c15_c19 : c15 ≠ c19 := fun e => q_c19 (e ▸ h_c15.1.1)
  have n_c16_c19 : c16 ≠ c19 := fun e => q_c19 (e ▸ h_c16.1.1)
  have n_c17_c19 : c17 ≠ c19 := fun e => q_c19 (e ▸ h_c17.1.1)
  have n_c18_c19 : c18 ≠ c19 := fun e => q_c19 (e ▸ h_c18.1.1)
  replace h_a := h_a.gx G32 n_a_c19
  replace h_lv := h_lv.gx G32 n_lv_c19
  replace h_im := h_im.gx G32 n_im_c19
  replace h_tr := h_tr.gx G32 n_tr_c19
  replace h_c4 := h_c4.gx G32 n_c4_c19
  replace h_c5 := h_c5.gx G32 n_c5_c19
  replace h_c6 := h_c6.gx G32 n_c6_c19
  replace h_c7 := h_c7.gx G32 n_c7_c19
  replace h_c8 := h_c8.gx G32 n_c8_c19
  replace h_c9 := h_c9.gx G32 n_c9_c19
  replace h_c10 := h_c10.gx G32 n_c10_c19
  replace h_c11 := h_c11.gx G32 n_c11_c19
  replace h_c12 := h_c12.gx G32 n_c12_c19
  replace h_c13 := h_c13.gx G32 n_c13_c19
  replace h_c14 := h_c14.gx G32 n_c14_c19
  replace h_c15 := h_c15.gx G32 n_c15_c19
  replace h_c16 := h_c16.gx G32 n_c16_c19
  replace h_c17 := h_c17.gx G32 n_c17_c19
  replace h_c18 := h_c18.gx G32 n_c18_c19
  have Gt32 : GX (fun z => z = a) S S32 := GX.tr Gt31 G32 (fun z hz e => absurd hz (e ▸ f_c19))
  clear Gt31
  have h_c19 : OB S32 c19 3 (fun _ => none) (fun _ => 0) := by rw [eS32]; exact ob_new
  replace Nn := Nn.c q_c19 G32 h_c19.1.1
  clear G32 eS32
  refine V_dup (pc := 124) dX8_init_124 rfl ?_
  refine V_cIv (pc := 125) (jc_X8_51 dX8_init_125 rfl) rfl (Nat.le_of_ble_eq_true rfl) (Nat.le_of_ble_eq_true rfl) (Nat.le_of_ble_eq_true rfl) ?_
  refine i_X3 h_c19 (fun c20 c21 c22 S33 G33 q_c20 q_c21 q_c22 n_c20_c21 n_c20_c22 n_c21_c22 h_N h_c20 h_c21 h_c22 => ?_)
  refine bd_V (c := 16) (s := 140) rfl rfl ?_
  have f_c20 : c20 ∉ gL S := GX.out Gt32 q_c20
  have n_c20_a : c20 ≠ a := fun e => q_c20 (by rw [e]; exact h_a.1.1)
  have n_lv_c20 : ∀ i, wIx i → lv i ≠ c20 := fun i hi e => q_c20 (e ▸ (h_lv.1 i hi).1)
  have n_im_c20 : ∀ i, wIx i → im i ≠ c20 := fun i hi e => q_c20 (e ▸ (h_im.1 i hi).1)
  have n_tr_c20 : ∀ i, wIx i → tr i ≠ c20 := fun i hi e => q_c20 (e ▸ (h_tr.1 i hi).1)
  have n_c20_c8 : c20 ≠ c8 := fun e => q_c20 (by rw [e]; exact h_c8.1.1)
  have n_c20_c9 : c20 ≠ c9 := fun e => q_c20 (by rw [e]; exact h_c9.1.1)
  have f_c21 : c21 ∉ gL S := GX.out Gt32 q_c21
  have n_c21_a : c21 ≠ a := fun e => q_c21 (by rw [e]; exact h_a.1.1)
  have n_lv_c21 : ∀ i, wIx i → lv i ≠ c21 := fun i hi e => q_c21 (e ▸ (h_lv.1 i hi).1)
  have n_im_c21 : ∀ i, wIx i → im i ≠ c21 := fun i hi e => q_c21 (e ▸ (h_im.1 i hi).1)
  have n_tr_c21 : ∀ i, wIx i → tr i ≠ c21 := fun i hi e => q_c21 (e ▸ (h_tr.1 i hi).1)
  have n_c21_c8 : c21 ≠ c8 := fun e => q_c21 (by rw [e]; exact h_c8.1.1)
  have n_c21_c9 : c21 ≠ c9 := fun e => q_c21 (by rw [e]; exact h_c9.1.1)
  have f_c22 : c22 ∉ gL S := GX.out Gt32 q_c22
  have n_c22_a : c22 ≠ a := fun e => q_c22 (by rw [e]; exact h_a.1.1)
  have n_lv_c22 : ∀ i, wIx i → lv i ≠ c22 := fun i hi e => q_c22 (e ▸ (h_lv.1 i hi).1)
  have n_im_c22 : ∀ i, wIx i → im i ≠ c22 := fun i hi e => q_c22 (e ▸ (h_im.1 i hi).1)
  have n_tr_c22 : ∀ i, wIx i → tr i ≠ c22 := fun i hi e => q_c22 (e ▸ (h_tr.1 i hi).1)
  have n_c22_c8 : c22 ≠ c8 := fun e => q_c22 (by rw [e]; exact h_c8.1.1)
  have n_c22_c9 : c22 ≠ c9 := fun e => q_c22 (by rw [e]; exact h_c9.1.1)
  replace h_a := h_a.gx G33 n_a_c19
  replace h_lv := h_lv.gx G33 n_lv_c19
  replace h_im := h_im.gx G33 n_im_c19
  replace h_tr := h_tr.gx G33 n_tr_c19
  replace h_c4 := h_c4.gx G33 n_c4_c19
  replace h_c5 := h_c5.gx G33 n_c5_c19
  replace h_c6 := h_c6.gx G33 n_c6_c19
  replace h_c7 := h_c7.gx G33 n_c7_c19
  replace h_c8 := h_c8.gx G33 n_c8_c19
  replace h_c9 := h_c9.gx G33 n_c9_c19
  replace h_c10 := h_c10.gx G33 n_c10_c19
  replace h_c11 := h_c11.gx G33 n_c11_c19
  replace h_c12 := h_c12.gx G33 n_c12_c19
  replace h_c13 := h_c13.gx G33 n_c13_c19
  replace h_c14 := h_c14.gx G33 n_c14_c19
  replace h_c15 := h_c15.gx G33 n_c15_c19
  replace h_c16 := h_c16.gx G33 n_c16_c19
  replace h_c17 := h_c17.gx G33 n_c17_c19
  replace h_c18 := h_c18.gx G33 n_c18_c19
  have Gt33 : GX (fun z => z = a) S S33 := GX.tr Gt32 G33 (fun z hz e => absurd hz (e ▸ f_c19))
  clear Gt32
  clear h_c19
  have h_c19 := h_N
  clear h_N
  have Nno := Nn
  clear Nn
  have Nn := Nno.c q_c20 G33 h_c20.1.1
  replace Nn := Nn.j1 Nno q_c21 n_c20_c21 h_c21.1.1
  replace Nn := Nn.j2 Nno q_c22 n_c21_c22 n_c20_c22 h_c22.1.1
  clear Nno
  clear G33 n_c20_c21 n_c20_c22 n_c21_c22 q_c20 q_c21 q_c22 f_c20 f_c21 f_c22
  refine V_aas (pc := 128) (N := 5) 12 3 0 dX8_init_128 (by decide) (by decide) (by decide) rfl h_c9.1 h_c19.1 h_c9.2.1 (by decide) (by first | rfl | decide) (by decide) ?_
  obtain ⟨S34, eS34⟩ : ∃ Z, Z = sY S33 c9 (va_up (gY S33 c9) 0 (some c19)) := ⟨_, rfl⟩
  rw [← eS34]
  have G34 : GX (fun z => z = c9) S33 S34 := by rw [eS34]; exact gx_sY
  replace h_a := h_a.gx G34 n_a_c9
  replace h_lv := h_lv.gx G34 n_lv_c9
  replace h_im := h_im.gx G34 n_im_c9
  replace h_tr := h_tr.gx G34 n_tr_c9
  replace h_c4 := h_c4.gx G34 n_c4_c9
  replace h_c5 := h_c5.gx G34 n_c5_c9
  replace h_c6 := h_c6.gx G34 n_c6_c9
  replace h_c7 := h_c7.gx G34 n_c7_c9
  replace h_c8 := h_c8.gx G34 n_c8_c9
  replace h_c10 := h_c10.gx G34 n_c10_c9
  replace h_c11 := h_c11.gx G34 n_c11_c9
  replace h_c12 := h_c12.gx G34 n_c12_c9
  replace h_c13 := h_c13.gx G34 n_c13_c9
  replace h_c14 := h_c14.gx G34 n_c14_c9
  replace h_c15 := h_c15.gx G34 n_c15_c9
  replace h_c16 := h_c16.gx G34 n_c16_c9
  replace h_c17 := h_c17.gx G34 n_c17_c9
  replace h_c18 := h_c18.gx G34 n_c18_c9
  replace h_c19 := h_c19.gx G34 n_c19_c9
  replace h_c20 := h_c20.gx G34 n_c20_c9
  replace h_c21 := h_c21.gx G34 n_c21_c9
  replace h_c22 := h_c22.gx G34 n_c22_c9
  have Gt34 : GX (fun z => z = a) S S34 := GX.tr Gt33 G34 (fun z hz e => absurd hz (e ▸ f_c9))
  clear Gt33
  replace Nn := Nn.gx G34
  replace h_c9 : RA S34 c9 12 5 (va_up (fun _ => none) 0 (some c19)) := by rw [eS34]; exact h_c9.w
  clear G34 eS34
  clear n_a_c19 n_c4_c19 n_c5_c19 n_c6_c19 n_c7_c19 n_c8_c19 n_c9_c19 n_c10_c19 n_c11_c19 n_c12_c19 n_c13_c19 n_c14_c19 n_c15_c19 n_c16_c19 n_c17_c19 n_c18_c19 q_c19 f_c19
  refine V_inc (pc := 129) (fun y => [(0, .ref a), (1, .int y)]) (w := 1) dX8_init_129 (by decide) (by decide) rfl (fun _ => rfl) (fun y129 ey129 => ?_)
  obtain rfl : y129 = nI 1 := by rw [ey129]; exact nI_1 _
  refine V_goto (pc := 132) (t := 111) dX8_init_132 (by decide) ?_
  refine V_iln (pc := 111) dX8_init_111 rfl rfl ?_
  refine V_iconst (pc := 112) (v := 5) dX8_init_112 (by decide) ?_
  refine V_cge (pc := 113) (t := 135) dX8_init_113 (by decide) (fun h => absurd h (by decide)) (fun _ => ?_)
  refine V_aln (pc := 116) dX8_init_116 rfl rfl ?_
  refine V_gr (pc := 117) 8 7 263 dX8_init_117 (FL_X8_42 rfl) rfl rfl h_a.1 ((h_a.2.1 263).trans rfl) ?_
  refine V_iln (pc := 120) dX8_init_120 rfl rfl ?_
  refine V_new (pc := 121) (jn_X8_40 dX8_init_121 rfl) (Nat.le_of_ble_eq_true rfl) (Nat.le_of_ble_eq_true rfl) (fun c23 q_c23 => ?_)
  refine bd_V (c := 15) (s := 136) rfl rfl ?_
  obtain ⟨S35, eS35⟩ : ∃ Z, Z = nO S34 c23 3 := ⟨_, rfl⟩
  rw [← eS35]
  have G35 : GX (fun z => z = c23) S34 S35 := by rw [eS35]; exact gx_O q_c23 (by decide)
  have f_c23 : c23 ∉ gL S := GX.out Gt34 q_c23
  have n_a_c23 : a ≠ c23 := fun e => q_c23 (e ▸ h_a.1.1)
  have n_c23_a := n_a_c23.symm
  have n_lv_c23 : ∀ i, wIx i → lv i ≠ c23 := fun i hi e => q_c23 (e ▸ (h_lv.1 i hi).1)
  have n_im_c23 : ∀ i, wIx i → im i ≠ c23 := fun i hi e => q_c23 (e ▸ (h_im.1 i hi).1)
  have n_tr_c23 : ∀ i, wIx i → tr i ≠ c23 := fun i hi e => q_c23 (e ▸ (h_tr.1 i hi).1)
  have n_c4_c23 : c4 ≠ c23 := fun e => q_c23 (e ▸ h_c4.1.1)
  have n_c5_c23 : c5 ≠ c23 := fun e => q_c23 (e ▸ h_c5.1.1)
  have n_c6_c23 : c6 ≠ c23 := fun e => q_c23 (e ▸ h_c6.1.1)
  have n_c7_c23 : c7 ≠ c23 := fun e => q_c23 (e ▸ h_c7.1.1)
  have n_c8_c23 : c8 ≠ c23 := fun e => q_c23 (e ▸ h_c8.1.1)
  have n_c23_c8 := n_c8_c23.symm
  have n_c9_c23 : c9 ≠ c23 := fun e => q_c23 (e ▸ h_c9.1.1)
  have n_c23_c9 := n_c9_c23.symm
  have n_c10_c23 : c10 ≠ c23 := fun e => q_c23 (e ▸ h_c10.1.1)
  have n_c11_c23 : c11 ≠ c23 := fun e => q_c23 (e ▸ h_c11.1.1)
  have n_c12_c23 : c12 ≠ c23 := fun e => q_c23 (e ▸ h_c12.1.1)
  have n_c13_c23 : c13 ≠ c23 := fun e => q_c23 (e ▸ h_c13.1.1)
  have n_c14_c23 : c14 ≠ c23 := fun e => q_c23 (e ▸ h_c14.1.1)
  have n_c15_c23 : c15 ≠ c23 := fun e => q_c23 (e ▸ h_c15.1.1)
  have n_c16_c23 : c16 ≠ c23 := fun e => q_c23 (e ▸ h_c16.1.1)
  have n_c17_c23 : c17 ≠ c23 := fun e => q_c23 (e ▸ h_c17.1.1)
  have n_c18_c23 : c18 ≠ c23 := fun e => q_c23 (e ▸ h_c18.1.1)
  have n_c19_c23 : c19 ≠ c23 := fun e => q_c23 (e ▸ h_c19.1.1)
  have n_c20_c23 : c20 ≠ c23 := fun e => q_c23 (e ▸ h_c20.1.1)
  have n_c21_c23 : c21 ≠ c23 := fun e => q_c23 (e ▸ h_c21.1.1)
  have n_c22_c23 : c22 ≠ c23 := fun e => q_c23 (e ▸ h_c22.1.1)
  replace h_a := h_a.gx G35 n_a_c23
  replace h_lv := h_lv.gx G35 n_lv_c23
  replace h_im := h_im.gx G35 n_im_c23
  replace h_tr := h_tr.gx G35 n_tr_c23
  replace h_c4 := h_c4.gx G35 n_c4_c23
  replace h_c5 := h_c5.gx G35 n_c5_c23
  replace h_c6 := h_c6.gx G35 n_c6_c23
  replace h_c7 := h_c7.gx G35 n_c7_c23
  replace h_c8 := h_c8.gx G35 n_c8_c23
  replace h_c9 := h_c9.gx G35 n_c9_c23
  replace h_c10 := h_c10.gx G35 n_c10_c23
  replace h_c11 := h_c11.gx G35 n_c11_c23
  replace h_c12 := h_c12.gx G35 n_c12_c23
  replace h_c13 := h_c13.gx G35 n_c13_c23
  replace h_c14 := h_c14.gx G35 n_c14_c23
  replace h_c15 := h_c15.gx G35 n_c15_c23
  replace h_c16 := h_c16.gx G35 n_c16_c23
  replace h_c17 := h_c17.gx G35 n_c17_c23
  replace h_c18 := h_c18.gx G35 n_c18_c23
  replace h_c19 := h_c19.gx G35 n_c19_c23
  replace h_c20 := h_c20.gx G35 n_c20_c23
  replace h_c21 := h_c21.gx G35 n_c21_c23
  replace h_c22 := h_c22.gx G35 n_c22_c23
  have Gt35 : GX (fun z => z = a) S S35 := GX.tr Gt34 G35 (fun z hz e => absurd hz (e ▸ f_c23))
  clear Gt34
  have h_c23 : OB S35 c23 3 (fun _ => none) (fun _ => 0) := by rw [eS35]; exact ob_new
  replace Nn := Nn.c q_c23 G35 h_c23.1.1
  clear G35 eS35
  refine V_dup (pc := 124) dX8_init_124 rfl ?_
  refine V_cIv (pc := 125) (jc_X8_51 dX8_init_125 rfl) rfl (Nat.le_of_ble_eq_true rfl) (Nat.le_of_ble_eq_true rfl) (Nat.le_of_ble_eq_true rfl) ?_
  refine i_X3 h_c23 (fun c24 c25 c26 S36 G36 q_c24 q_c25 q_c26 n_c24_c25 n_c24_c26 n_c25_c26 h_N h_c24 h_c25 h_c26 => ?_)
  refine bd_V (c := 12) (s := 105) rfl rfl ?_
  have f_c24 : c24 ∉ gL S := GX.out Gt35 q_c24
  have n_c24_a : c24 ≠ a := fun e => q_c24 (by rw [e]; exact h_a.1.1)
  have n_lv_c24 : ∀ i, wIx i → lv i ≠ c24 := fun i hi e => q_c24 (e ▸ (h_lv.1 i hi).1)
  have n_im_c24 : ∀ i, wIx i → im i ≠ c24 := fun i hi e => q_c24 (e ▸ (h_im.1 i hi).1)
  have n_tr_c24 : ∀ i, wIx i → tr i ≠ c24 := fun i hi e => q_c24 (e ▸ (h_tr.1 i hi).1)
  have n_c24_c8 : c24 ≠ c8 := fun e => q_c24 (by rw [e]; exact h_c8.1.1)
  have n_c24_c9 : c24 ≠ c9 := fun e => q_c24 (by rw [e]; exact h_c9.1.1)
  have f_c25 : c25 ∉ gL S := GX.out Gt35 q_c25
  have n_c25_a : c25 ≠ a := fun e => q_c25 (by rw [e]; exact h_a.1.1)
  have n_lv_c25 : ∀ i, wIx i → lv i ≠ c25 := fun i hi e => q_c25 (e ▸ (h_lv.1 i hi).1)
  have n_im_c25 : ∀ i, wIx i → im i ≠ c25 := fun i hi e => q_c25 (e ▸ (h_im.1 i hi).1)
  have n_tr_c25 : ∀ i, wIx i → tr i ≠ c25 := fun i hi e => q_c25 (e ▸ (h_tr.1 i hi).1)
  have n_c25_c8 : c25 ≠ c8 := fun e => q_c25 (by rw [e]; exact h_c8.1.1)
  have n_c25_c9 : c25 ≠ c9 := fun e => q_c25 (by rw [e]; exact h_c9.1.1)
  have f_c26 : c26 ∉ gL S := GX.out Gt35 q_c26
  have n_c26_a : c26 ≠ a := fun e => q_c26 (by rw [e]; exact h_a.1.1)
  have n_lv_c26 : ∀ i, wIx i → lv i ≠ c26 := fun i hi e => q_c26 (e ▸ (h_lv.1 i hi).1)
  have n_im_c26 : ∀ i, wIx i → im i ≠ c26 := fun i hi e => q_c26 (e ▸ (h_im.1 i hi).1)
  have n_tr_c26 : ∀ i, wIx i → tr i ≠ c26 := fun i hi e => q_c26 (e ▸ (h_tr.1 i hi).1)
  have n_c26_c8 : c26 ≠ c8 := fun e => q_c26 (by rw [e]; exact h_c8.1.1)
  have n_c26_c9 : c26 ≠ c9 := fun e => q_c26 (by rw [e]; exact h_c9.1.1)
  replace h_a := h_a.gx G36 n_a_c23
  replace h_lv := h_lv.gx G36 n_lv_c23
  replace h_im := h_im.gx G36 n_im_c23
  replace h_tr := h_tr.gx G36 n_tr_c23
  replace h_c4 := h_c4.gx G36 n_c4_c23
  replace h_c5 := h_c5.gx G36 n_c5_c23
  replace h_c6 := h_c6.gx G36 n_c6_c23
  replace h_c7 := h_c7.gx G36 n_c7_c23
  replace h_c8 := h_c8.gx G36 n_c8_c23
  replace h_c9 := h_c9.gx G36 n_c9_c23
  replace h_c10 := h_c10.gx G36 n_c10_c23
  replace h_c11 := h_c11.gx G36 n_c11_c23
  replace h_c12 := h_c12.gx G36 n_c12_c23
  replace h_c13 := h_c13.gx G36 n_c13_c23
  replace h_c14 := h_c14.gx G36 n_c14_c23
  replace h_c15 := h_c15.gx G36 n_c15_c23
  replace h_c16 := h_c16.gx G36 n_c16_c23
  replace h_c17 := h_c17.gx G36 n_c17_c23
  replace h_c18 := h_c18.gx G36 n_c18_c23
  replace h_c19 := h_c19.gx G36 n_c19_c23
  replace h_c20 := h_c20.gx G36 n_c20_c23
  replace h_c21 := h_c21.gx G36 n_c21_c23
  replace h_c22 := h_c22.gx G36 n_c22_c23
  have Gt36 : GX (fun z => z = a) S S36 := GX.tr Gt35 G36 (fun z hz e => absurd hz (e ▸ f_c23))
  clear Gt35
  clear h_c23
  have h_c23 := h_N
  clear h_N
  have Nno := Nn
  clear Nn
  have Nn := Nno.c q_c24 G36 h_c24.1.1
  replace Nn := Nn.j1 Nno q_c25 n_c24_c25 h_c25.1.1
  replace Nn := Nn.j2 Nno q_c26 n_c25_c26 n_c24_c26 h_c26.1.1
  clear Nno
  clear G36 n_c24_c25 n_c24_c26 n_c25_c26 q_c24 q_c25 q_c26 f_c24 f_c25 f_c26
  refine V_aas (pc := 128) (N := 5) 12 3 1 dX8_init_128 (by decide) (by decide) (by decide) rfl h_c9.1 h_c23.1 h_c9.2.1 (by decide) (by first | rfl | decide) (by decide) ?_
  obtain ⟨S37, eS37⟩ : ∃ Z, Z = sY S36 c9 (va_up (gY S36 c9) 1 (some c23)) := ⟨_, rfl⟩
  rw [← eS37]
  have G37 : GX (fun z => z = c9) S36 S37 := by rw [eS37]; exact gx_sY
  replace h_a := h_a.gx G37 n_a_c9
  replace h_lv := h_lv.gx G37 n_lv_c9
  replace h_im := h_im.gx G37 n_im_c9
  replace h_tr := h_tr.gx G37 n_tr_c9
  replace h_c4 := h_c4.gx G37 n_c4_c9
  replace h_c5 := h_c5.gx G37 n_c5_c9
  replace h_c6 := h_c6.gx G37 n_c6_c9
  replace h_c7 := h_c7.gx G37 n_c7_c9
  replace h_c8 := h_c8.gx G37 n_c8_c9
  replace h_c10 := h_c10.gx G37 n_c10_c9
  replace h_c11 := h_c11.gx G37 n_c11_c9
  replace h_c12 := h_c12.gx G37 n_c12_c9
  replace h_c13 := h_c13.gx G37 n_c13_c9
  replace h_c14 := h_c14.gx G37 n_c14_c9
  replace h_c15 := h_c15.gx G37 n_c15_c9
  replace h_c16 := h_c16.gx G37 n_c16_c9
  replace h_c17 := h_c17.gx G37 n_c17_c9
  replace h_c18 := h_c18.gx G37 n_c18_c9
  replace h_c19 := h_c19.gx G37 n_c19_c9
  replace h_c20 := h_c20.gx G37 n_c20_c9
  replace h_c21 := h_c21.gx G37 n_c21_c9
  replace h_c22 := h_c22.gx G37 n_c22_c9
  replace h_c23 := h_c23.gx G37 n_c23_c9
  replace h_c24 := h_c24.gx G37 n_c24_c9
  replace h_c25 := h_c25.gx G37 n_c25_c9
  replace h_c26 := h_c26.gx G37 n_c26_c9
  have Gt37 : GX (fun z => z = a) S S37 := GX.tr Gt36 G37 (fun z hz e => absurd hz (e ▸ f_c9))
  clear Gt36
  replace Nn := Nn.gx G37
  replace h_c9 : RA S37 c9 12 5 (va_up (va_up (fun _ => none) 0 (some c19)) 1 (some c23)) := by rw [eS37]; exact h_c9.w
  clear G37 eS37
  clear n_a_c23 n_c4_c23 n_c5_c23 n_c6_c23 n_c7_c23 n_c8_c23 n_c9_c23 n_c10_c23 n_c11_c23 n_c12_c23 n_c13_c23 n_c14_c23 n_c15_c23 n_c16_c23 n_c17_c23 n_c18_c23 n_c19_c23 n_c20_c23 n_c21_c23 n_c22_c23 q_c23 f_c23
  refine V_inc (pc := 129) (fun y => [(0, .ref a), (1, .int y)]) (w := 1) dX8_init_129 (by decide) (by decide) rfl (fun _ => rfl) (fun y129 ey129 => ?_)
  obtain rfl : y129 = nI 2 := by rw [ey129]; exact nI_1 _
  refine V_goto (pc := 132) (t := 111) dX8_init_132 (by decide) ?_
  refine V_iln (pc := 111) dX8_init_111 rfl rfl ?_
  refine V_iconst (pc := 112) (v := 5) dX8_init_112 (by decide) ?_
  refine V_cge (pc := 113) (t := 135) dX8_init_113 (by decide) (fun h => absurd h (by decide)) (fun _ => ?_)
  refine V_aln (pc := 116) dX8_init_116 rfl rfl ?_
  refine V_gr (pc := 117) 8 7 263 dX8_init_117 (FL_X8_42 rfl) rfl rfl h_a.1 ((h_a.2.1 263).trans rfl) ?_
  refine V_iln (pc := 120) dX8_init_120 rfl rfl ?_
  refine V_new (pc := 121) (jn_X8_40 dX8_init_121 rfl) (Nat.le_of_ble_eq_true rfl) (Nat.le_of_ble_eq_true rfl) (fun c27 q_c27 => ?_)
  refine bd_V (c := 11) (s := 101) rfl rfl ?_
  obtain ⟨S38, eS38⟩ : ∃ Z, Z = nO S37 c27 3 := ⟨_, rfl⟩
  rw [← eS38]
  have G38 : GX (fun z => z = c27) S37 S38 := by rw [eS38]; exact gx_O q_c27 (by decide)
  have f_c27 : c27 ∉ gL S := GX.out Gt37 q_c27
  have n_a_c27 : a ≠ c27 := fun e => q_c27 (e ▸ h_a.1.1)
  have n_c27_a := n_a_c27.symm
  have n_lv_c27 : ∀ i, wIx i → lv i ≠ c27 := fun i hi e => q_c27 (e ▸ (h_lv.1 i hi).1)
  have n_im_c27 : ∀ i, wIx i → im i ≠ c27 := fun i hi e => q_c27 (e ▸ (h_im.1 i hi).1)
  have n_tr_c27 : ∀ i, wIx i → tr i ≠ c27 := fun i hi e => q_c27 (e ▸ (h_tr.1 i hi).1)
  have n_c4_c27 : c4 ≠ c27 := fun e => q_c27 (e ▸ h_c4.1.1)
  have n_c5_c27 : c5 ≠ c27 := fun e => q_c27 (e ▸ h_c5.1.1)
  have n_c6_c27 : c6 ≠ c27 := fun e => q_c27 (e ▸ h_c6.1.1)
  have n_c7_c27 : c7 ≠ c27 := fun e => q_c27 (e ▸ h_c7.1.1)
  have n_c8_c27 : c8 ≠ c27 := fun e => q_c27 (e ▸ h_c8.1.1)
  have n_c27_c8 := n_c8_c27.symm
  have n_c9_c27 : c9 ≠ c27 := fun e => q_c27 (e ▸ h_c9.1.1)
  have n_c27_c9 := n_c9_c27.symm
  have n_c10_c27 : c10 ≠ c27 := fun e => q_c27 (e ▸ h_c10.1.1)
  have n_c11_c27 : c11 ≠ c27 := fun e => q_c27 (e ▸ h_c11.1.1)
  have n_c12_c27 : c12 ≠ c27 := fun e => q_c27 (e ▸ h_c12.1.1)
  have n_c13_c27 : c13 ≠ c27 := fun e => q_c27 (e ▸ h_c13.1.1)
  have n_c14_c27 : c14 ≠ c27 := fun e => q_c27 (e ▸ h_c14.1.1)
  have n_c15_c27 : c15 ≠ c27 := fun e => q_c27 (e ▸ h_c15.1.1)
  have n_c16_c27 : c16 ≠ c27 := fun e => q_c27 (e ▸ h_c16.1.1)
  have n_c17_c27 : c17 ≠ c27 := fun e => q_c27 (e ▸ h_c17.1.1)
  have n_c18_c27 : c18 ≠ c27 := fun e => q_c27 (e ▸ h_c18.1.1)
  have n_c19_c27 : c19 ≠ c27 := fun e => q_c27 (e ▸ h_c19.1.1)
  have n_c20_c27 : c20 ≠ c27 := fun e => q_c27 (e ▸ h_c20.1.1)
  have n_c21_c27 : c21 ≠ c27 := fun e => q_c27 (e ▸ h_c21.1.1)
  have n_c22_c27 : c22 ≠ c27 := fun e => q_c27 (e ▸ h_c22.1.1)
  have n_c23_c27 : c23 ≠ c27 := fun e => q_c27 (e ▸ h_c23.1.1)
  have n_c24_c27 : c24 ≠ c27 := fun e => q_c27 (e ▸ h_c24.1.1)
  have n_c25_c27 : c25 ≠ c27 := fun e => q_c27 (e ▸ h_c25.1.1)
  have n_c26_c27 : c26 ≠ c27 := fun e => q_c27 (e ▸ h_c26.1.1)
  replace h_a := h_a.gx G38 n_a_c27
  replace h_lv := h_lv.gx G38 n_lv_c27
  replace h_im := h_im.gx G38 n_im_c27
  replace h_tr := h_tr.gx G38 n_tr_c27
  replace h_c4 := h_c4.gx G38 n_c4_c27
  replace h_c5 := h_c5.gx G38 n_c5_c27
  replace h_c6 := h_c6.gx G38 n_c6_c27
  replace h_c7 := h_c7.gx G38 n_c7_c27
  replace h_c8 := h_c8.gx G38 n_c8_c27
  replace h_c9 := h_c9.gx G38 n_c9_c27
  replace h_c10 := h_c10.gx G38 n_c10_c27
  replace h_c11 := h_c11.gx G38 n_c11_c27
  replace h_c12 := h_c12.gx G38 n_c12_c27
  replace h_c13 := h_c13.gx G38 n_c13_c27
  replace h_c14 := h_c14.gx G38 n_c14_c27
  replace h_c15 := h_c15.gx G38 n_c15_c27
  replace h_c16 := h_c16.gx G38 n_c16_c27
  replace h_c17 := h_c17.gx G38 n_c17_c27
  replace h_c18 := h_c18.gx G38 n_c18_c27
  replace h_c19 := h_c19.gx G38 n_c19_c27
  replace h_c20 := h_c20.gx G38 n_c20_c27
  replace h_c21 := h_c21.gx G38 n_c21_c27
  replace h_c22 := h_c22.gx G38 n_c22_c27
  replace h_c23 := h_c23.gx G38 n_c23_c27
  replace h_c24 := h_c24.gx G38 n_c24_c27
  replace h_c25 := h_c25.gx G38 n_c25_c27
  replace h_c26 := h_c26.gx G38 n_c26_c27
  have Gt38 : GX (fun z => z = a) S S38 := GX.tr Gt37 G38 (fun z hz e => absurd hz (e ▸ f_c27))
  clear Gt37
  have h_c27 : OB S38 c27 3 (fun _ => none) (fun _ => 0) := by rw [eS38]; exact ob_new
  replace Nn := Nn.c q_c27 G38 h_c27.1.1
  clear G38 eS38
  refine V_dup (pc := 124) dX8_init_124 rfl ?_
  refine V_cIv (pc := 125) (jc_X8_51 dX8_init_125 rfl) rfl (Nat.le_of_ble_eq_true rfl) (Nat.le_of_ble_eq_true rfl) (Nat.le_of_ble_eq_true rfl) ?_
  refine i_X3 h_c27 (fun c28 c29 c30 S39 G39 q_c28 q_c29 q_c30 n_c28_c29 n_c28_c30 n_c29_c30 h_N h_c28 h_c29 h_c30 => ?_)
  refine bd_V (c := 8) (s := 70) rfl rfl ?_
  have f_c28 : c28 ∉ gL S := GX.out Gt38 q_c28
  have n_c28_a : c28 ≠ a := fun e => q_c28 (by rw [e]; exact h_a.1.1)
  have n_lv_c28 : ∀ i, wIx i → lv i ≠ c28 := fun i hi e => q_c28 (e ▸ (h_lv.1 i hi).1)
  have n_im_c28 : ∀ i, wIx i → im i ≠ c28 := fun i hi e => q_c28 (e ▸ (h_im.1 i hi).1)
  have n_tr_c28 : ∀ i, wIx i → tr i ≠ c28 := fun i hi e => q_c28 (e ▸ (h_tr.1 i hi).1)
  have n_c28_c8 : c28 ≠ c8 := fun e => q_c28 (by rw [e]; exact h_c8.1.1)
  have n_c28_c9 : c28 ≠ c9 := fun e => q_c28 (by rw [e]; exact h_c9.1.1)
  have f_c29 : c29 ∉ gL S := GX.out Gt38 q_c29
  have n_c29_a : c29 ≠ a := fun e => q_c29 (by rw [e]; exact h_a.1.1)
  have n_lv_c29 : ∀ i, wIx i → lv i ≠ c29 := fun i hi e => q_c29 (e ▸ (h_lv.1 i hi).1)
  have n_im_c29 : ∀ i, wIx i → im i ≠ c29 := fun i hi e => q_c29 (e ▸ (h_im.1 i hi).1)
  have n_tr_c29 : ∀ i, wIx i → tr i ≠ c29 := fun i hi e => q_c29 (e ▸ (h_tr.1 i hi).1)
  have n_c29_c8 : c29 ≠ c8 := fun e => q_c29 (by rw [e]; exact h_c8.1.1)
  have n_c29_c9 : c29 ≠ c9 := fun e => q_c29 (by rw [e]; exact h_c9.1.1)
  have f_c30 : c30 ∉ gL S := GX.out Gt38 q_c30
  have n_c30_a : c30 ≠ a := fun e => q_c30 (by rw [e]; exact h_a.1.1)
  have n_lv_c30 : ∀ i, wIx i → lv i ≠ c30 := fun i hi e => q_c30 (e ▸ (h_lv.1 i hi).1)
  have n_im_c30 : ∀ i, wIx i → im i ≠ c30 := fun i hi e => q_c30 (e ▸ (h_im.1 i hi).1)
  have n_tr_c30 : ∀ i, wIx i → tr i ≠ c30 := fun i hi e => q_c30 (e ▸ (h_tr.1 i hi).1)
  have n_c30_c8 : c30 ≠ c8 := fun e => q_c30 (by rw [e]; exact h_c8.1.1)
  have n_c30_c9 : c30 ≠ c9 := fun e => q_c30 (by rw [e]; exact h_c9.1.1)
  replace h_a := h_a.gx G39 n_a_c27
  replace h_lv := h_lv.gx G39 n_lv_c27
  replace h_im := h_im.gx G39 n_im_c27
  replace h_tr := h_tr.gx G39 n_tr_c27
  replace h_c4 := h_c4.gx G39 n_c4_c27
  replace h_c5 := h_c5.gx G39 n_c5_c27
  replace h_c6 := h_c6.gx G39 n_c6_c27
  replace h_c7 := h_c7.gx G39 n_c7_c27
  replace h_c8 := h_c8.gx G39 n_c8_c27
  replace h_c9 := h_c9.gx G39 n_c9_c27
  replace h_c10 := h_c10.gx G39 n_c10_c27
  replace h_c11 := h_c11.gx G39 n_c11_c27
  replace h_c12 := h_c12.gx G39 n_c12_c27
  replace h_c13 := h_c13.gx G39 n_c13_c27
  replace h_c14 := h_c14.gx G39 n_c14_c27
  replace h_c15 := h_c15.gx G39 n_c15_c27
  replace h_c16 := h_c16.gx G39 n_c16_c27
  replace h_c17 := h_c17.gx G39 n_c17_c27
  replace h_c18 := h_c18.gx G39 n_c18_c27
  replace h_c19 := h_c19.gx G39 n_c19_c27
  replace h_c20 := h_c20.gx G39 n_c20_c27
  replace h_c21 := h_c21.gx G39 n_c21_c27
  replace h_c22 := h_c22.gx G39 n_c22_c27
  replace h_c23 := h_c23.gx G39 n_c23_c27
  replace h_c24 := h_c24.gx G39 n_c24_c27
  replace h_c25 := h_c25.gx G39 n_c25_c27
  replace h_c26 := h_c26.gx G39 n_c26_c27
  have Gt39 : GX (fun z => z = a) S S39 := GX.tr Gt38 G39 (fun z hz e => absurd hz (e ▸ f_c27))
  clear Gt38
  clear h_c27
  have h_c27 := h_N
  clear h_N
  have Nno := Nn
  clear Nn
  have Nn := Nno.c q_c28 G39 h_c28.1.1
  replace Nn := Nn.j1 Nno q_c29 n_c28_c29 h_c29.1.1
  replace Nn := Nn.j2 Nno q_c30 n_c29_c30 n_c28_c30 h_c30.1.1
  clear Nno
  clear G39 n_c28_c29 n_c28_c30 n_c29_c30 q_c28 q_c29 q_c30 f_c28 f_c29 f_c30
  refine V_aas (pc := 128) (N := 5) 12 3 2 dX8_init_128 (by decide) (by decide) (by decide) rfl h_c9.1 h_c27.1 h_c9.2.1 (by decide) (by first | rfl | decide) (by decide) ?_
  obtain ⟨S40, eS40⟩ : ∃ Z, Z = sY S39 c9 (va_up (gY S39 c9) 2 (some c27)) := ⟨_, rfl⟩
  rw [← eS40]
  have G40 : GX (fun z => z = c9) S39 S40 := by rw [eS40]; exact gx_sY
  replace h_a := h_a.gx G40 n_a_c9
  replace h_lv := h_lv.gx G40 n_lv_c9
  replace h_im := h_im.gx G40 n_im_c9
  replace h_tr := h_tr.gx G40 n_tr_c9
  replace h_c4 := h_c4.gx G40 n_c4_c9
  replace h_c5 := h_c5.gx G40 n_c5_c9
  replace h_c6 := h_c6.gx G40 n_c6_c9
  replace h_c7 := h_c7.gx G40 n_c7_c9
  replace h_c8 := h_c8.gx G40 n_c8_c9
  replace h_c10 := h_c10.gx G40 n_c10_c9
  replace h_c11 := h_c11.gx G40 n_c11_c9
  replace h_c12 := h_c12.gx G40 n_c12_c9
  replace h_c13 := h_c13.gx G40 n_c13_c9
  replace h_c14 := h_c14.gx G40 n_c14_c9
  replace h_c15 := h_c15.gx G40 n_c15_c9
  replace h_c16 := h_c16.gx G40 n_c16_c9
  replace h_c17 := h_c17.gx G40 n_c17_c9
  replace h_c18 := h_c18.gx G40 n_c18_c9
  replace h_c19 := h_c19.gx G40 n_c19_c9
  replace h_c20 := h_c20.gx G40 n_c20_c9
  replace h_c21 := h_c21.gx G40 n_c21_c9
  replace h_c22 := h_c22.gx G40 n_c22_c9
  replace h_c23 := h_c23.gx G40 n_c23_c9
  replace h_c24 := h_c24.gx G40 n_c24_c9
  replace h_c25 := h_c25.gx G40 n_c25_c9
  replace h_c26 := h_c26.gx G40 n_c26_c9
  replace h_c27 := h_c27.gx G40 n_c27_c9
  replace h_c28 := h_c28.gx G40 n_c28_c9
  replace h_c29 := h_c29.gx G40 n_c29_c9
  replace h_c30 := h_c30.gx G40 n_c30_c9
  have Gt40 : GX (fun z => z = a) S S40 := GX.tr Gt39 G40 (fun z hz e => absurd hz (e ▸ f_c9))
  clear Gt39
  replace Nn := Nn.gx G40
  replace h_c9 : RA S40 c9 12 5 (va_up (va_up (va_up (fun _ => none) 0 (some c19)) 1 (some c23)) 2 (some c27)) := by rw [eS40]; exact h_c9.w
  clear G40 eS40
  clear n_a_c27 n_c4_c27 n_c5_c27 n_c6_c27 n_c7_c27 n_c8_c27 n_c9_c27 n_c10_c27 n_c11_c27 n_c12_c27 n_c13_c27 n_c14_c27 n_c15_c27 n_c16_c27 n_c17_c27 n_c18_c27 n_c19_c27 n_c20_c27 n_c21_c27 n_c22_c27 n_c23_c27 n_c24_c27 n_c25_c27 n_c26_c27 q_c27 f_c27
  refine V_inc (pc := 129) (fun y => [(0, .ref a), (1, .int y)]) (w := 1) dX8_init_129 (by decide) (by decide) rfl (fun _ => rfl) (fun y129 ey129 => ?_)
  obtain rfl : y129 = nI 3 := by rw [ey129]; exact nI_1 _
  refine V_goto (pc := 132) (t := 111) dX8_init_132 (by decide) ?_
  refine V_iln (pc := 111) dX8_init_111 rfl rfl ?_
  refine V_iconst (pc := 112) (v := 5) dX8_init_112 (by decide) ?_
  refine V_cge (pc := 113) (t := 135) dX8_init_113 (by decide) (fun h => absurd h (by decide)) (fun _ => ?_)
  refine V_aln (pc := 116) dX8_init_116 rfl rfl ?_
  refine V_gr (pc := 117) 8 7 263 dX8_init_117 (FL_X8_42 rfl) rfl rfl h_a.1 ((h_a.2.1 263).trans rfl) ?_
  refine V_iln (pc := 120) dX8_init_120 rfl rfl ?_
  refine V_new (pc := 121) (jn_X8_40 dX8_init_121 rfl) (Nat.le_of_ble_eq_true rfl) (Nat.le_of_ble_eq_true rfl) (fun c31 q_c31 => ?_)
  refine bd_V (c := 7) (s := 66) rfl rfl ?_
  obtain ⟨S41, eS41⟩ : ∃ Z, Z = nO S40 c31 3 := ⟨_, rfl⟩
  rw [← eS41]
  have G41 : GX (fun z => z = c31) S40 S41 := by rw [eS41]; exact gx_O q_c31 (by decide)
  have f_c31 : c31 ∉ gL S := GX.out Gt40 q_c31
  have n_a_c31 : a ≠ c31 := fun e => q_c31 (e ▸ h_a.1.1)
  have n_c31_a := n_a_c31.symm
  have n_lv_c31 : ∀ i, wIx i → lv i ≠ c31 := fun i hi e => q_c31 (e ▸ (h_lv.1 i hi).1)
  have n_im_c31 : ∀ i, wIx i → im i ≠ c31 := fun i hi e => q_c31 (e ▸ (h_im.1 i hi).1)
  have n_tr_c31 : ∀ i, wIx i → tr i ≠ c31 := fun i hi e => q_c31 (e ▸ (h_tr.1 i hi).1)
  have n_c4_c31 : c4 ≠ c31 := fun e => q_c31 (e ▸ h_c4.1.1)
  have n_c5_c31 : c5 ≠ c31 := fun e => q_c31 (e ▸ h_c5.1.1)
  have n_c6_c31 : c6 ≠ c31 := fun e => q_c31 (e ▸ h_c6.1.1)
  have n_c7_c31 : c7 ≠ c31 := fun e => q_c31 (e ▸ h_c7.1.1)
  have n_c8_c31 : c8 ≠ c31 := fun e => q_c31 (e ▸ h_c8.1.1)
  have n_c31_c8 := n_c8_c31.symm
  have n_c9_c31 : c9 ≠ c31 := fun e => q_c31 (e ▸ h_c9.1.1)
  have n_c31_c9 := n_c9_c31.symm
  have n_c10_c31 : c10 ≠ c31 := fun e => q_c31 (e ▸ h_c10.1.1)
  have n_c11_c31 : c11 ≠ c31 := fun e => q_c31 (e ▸ h_c11.1.1)
  have n_c12_c31 : c12 ≠ c31 := fun e => q_c31 (e ▸ h_c12.1.1)
  have n_c13_c31 : c13 ≠ c31 := fun e => q_c31 (e ▸ h_c13.1.1)
  have n_c14_c31 : c14 ≠ c31 := fun e => q_c31 (e ▸ h_c14.1.1)
  have n_c15_c31 : c15 ≠ c31 := fun e => q_c31 (e ▸ h_c15.1.1)
  have n_c16_c31 : c16 ≠ c31 := fun e => q_c31 (e ▸ h_c16.1.1)
  have n_c17_c31 : c17 ≠ c31 := fun e => q_c31 (e ▸ h_c17.1.1)
  have n_c18_c31 : c18 ≠ c31 := fun e => q_c31 (e ▸ h_c18.1.1)
  have n_c19_c31 : c19 ≠ c31 := fun e => q_c31 (e ▸ h_c19.1.1)
  have n_c20_c31 : c20 ≠ c31 := fun e => q_c31 (e ▸ h_c20.1.1)
  have n_c21_c31 : c21 ≠ c31 := fun e => q_c31 (e ▸ h_c21.1.1)
  have n_c22_c31 : c22 ≠ c31 := fun e => q_c31 (e ▸ h_c22.1.1)
  have n_c23_c31 : c23 ≠ c31 := fun e => q_c31 (e ▸ h_c23.1.1)
  have n_c24_c31 : c24 ≠ c31 := fun e => q_c31 (e ▸ h_c24.1.1)
  have n_c25_c31 : c25 ≠ c31 := fun e => q_c31 (e ▸ h_c25.1.1)
  have n_c26_c31 : c26 ≠ c31 := fun e => q_c31 (e ▸ h_c26.1.1)
  have n_c27_c31 : c27 ≠ c31 := fun e => q_c31 (e ▸ h_c27.1.1)
  have n_c28_c31 : c28 ≠ c31 := fun e => q_c31 (e ▸ h_c28.1.1)
  have n_c29_c31 : c29 ≠ c31 := fun e => q_c31 (e ▸ h_c29.1.1)
  have n_c30_c31 : c30 ≠ c31 := fun e => q_c31 (e ▸ h_c30.1.1)
  replace h_a := h_a.gx G41 n_a_c31
  replace h_lv := h_lv.gx G41 n_lv_c31
  replace h_im := h_im.gx G41 n_im_c31
  replace h_tr := h_tr.gx G41 n_tr_c31
  replace h_c4 := h_c4.gx G41 n_c4_c31
  replace h_c5 := h_c5.gx G41 n_c5_c31
  replace h_c6 := h_c6.gx G41 n_c6_c31
  replace h_c7 := h_c7.gx G41 n_c7_c31
  replace h_c8 := h_c8.gx G41 n_c8_c31
  replace h_c9 := h_c9.gx G41 n_c9_c31
  replace h_c10 := h_c10.gx G41 n_c10_c31
  replace h_c11 := h_c11.gx G41 n_c11_c31
  replace h_c12 := h_c12.gx G41 n_c12_c31
  replace h_c13 := h_c13.gx G41 n_c13_c31
  replace h_c14 := h_c14.gx G41 n_c14_c31
  replace h_c15 := h_c15.gx G41 n_c15_c31
  replace h_c16 := h_c16.gx G41 n_c16_c31
  replace h_c17 := h_c17.gx G41 n_c17_c31
  replace h_c18 := h_c18.gx G41 n_c18_c31
  replace h_c19 := h_c19.gx G41 n_c19_c31
  replace h_c20 := h_c20.gx G41 n_c20_c31
  replace h_c21 := h_c21.gx G41 n_c21_c31
  replace h_c22 := h_c22.gx G41 n_c22_c31
  replace h_c23 := h_c23.gx G41 n_c23_c31
  replace h_c24 := h_c24.gx G41 n_c24_c31
  replace h_c25 := h_c25.gx G41 n_c25_c31
  replace h_c26 := h_c26.gx G41 n_c26_c31
  replace h_c27 := h_c27.gx G41 n_c27_c31
  replace h_c28 := h_c28.gx G41 n_c28_c31
  replace h_c29 := h_c29.gx G41 n_c29_c31
  replace h_c30 := h_c30.gx G41 n_c30_c31
  have Gt41 : GX (fun z => z = a) S S41 := GX.tr Gt40 G41 (fun z hz e => absurd hz (e ▸ f_c31))
  clear Gt40
  have h_c31 : OB S41 c31 3 (fun _ => none) (fun _ => 0) := by rw [eS41]; exact ob_new
  replace Nn := Nn.c q_c31 G41 h_c31.1.1
  clear G41 eS41
  refine V_dup (pc := 124) dX8_init_124 rfl ?_
  refine V_cIv (pc := 125) (jc_X8_51 dX8_init_125 rfl) rfl (Nat.le_of_ble_eq_true rfl) (Nat.le_of_ble_eq_true rfl) (Nat.le_of_ble_eq_true rfl) ?_
  refine i_X3 h_c31 (fun c32 c33 c34 S42 G42 q_c32 q_c33 q_c34 n_c32_c33 n_c32_c34 n_c33_c34 h_N h_c32 h_c33 h_c34 => ?_)
  refine bd_V (c := 4) (s := 35) rfl rfl ?_
  have f_c32 : c32 ∉ gL S := GX.out Gt41 q_c32
  have n_c32_a : c32 ≠ a := fun e => q_c32 (by rw [e]; exact h_a.1.1)
  have n_lv_c32 : ∀ i, wIx i → lv i ≠ c32 := fun i hi e => q_c32 (e ▸ (h_lv.1 i hi).1)
  have n_im_c32 : ∀ i, wIx i → im i ≠ c32 := fun i hi e => q_c32 (e ▸ (h_im.1 i hi).1)
  have n_tr_c32 : ∀ i, wIx i → tr i ≠ c32 := fun i hi e => q_c32 (e ▸ (h_tr.1 i hi).1)
  have n_c32_c8 : c32 ≠ c8 := fun e => q_c32 (by rw [e]; exact h_c8.1.1)
  have n_c32_c9 : c32 ≠ c9 := fun e => q_c32 (by rw [e]; exact h_c9.1.1)
  have f_c33 : c33 ∉ gL S := GX.out Gt41 q_c33
  have n_c33_a : c33 ≠ a := fun e => q_c33 (by rw [e]; exact h_a.1.1)
  have n_lv_c33 : ∀ i, wIx i → lv i ≠ c33 := fun i hi e => q_c33 (e ▸ (h_lv.1 i hi).1)
  have n_im_c33 : ∀ i, wIx i → im i ≠ c33 := fun i hi e => q_c33 (e ▸ (h_im.1 i hi).1)
  have n_tr_c33 : ∀ i, wIx i → tr i ≠ c33 := fun i hi e => q_c33 (e ▸ (h_tr.1 i hi).1)
  have n_c33_c8 : c33 ≠ c8 := fun e => q_c33 (by rw [e]; exact h_c8.1.1)
  have n_c33_c9 : c33 ≠ c9 := fun e => q_c33 (by rw [e]; exact h_c9.1.1)
  have f_c34 : c34 ∉ gL S := GX.out Gt41 q_c34
  have n_c34_a : c34 ≠ a := fun e => q_c34 (by rw [e]; exact h_a.1.1)
  have n_lv_c34 : ∀ i, wIx i → lv i ≠ c34 := fun i hi e => q_c34 (e ▸ (h_lv.1 i hi).1)
  have n_im_c34 : ∀ i, wIx i → im i ≠ c34 := fun i hi e => q_c34 (e ▸ (h_im.1 i hi).1)
  have n_tr_c34 : ∀ i, wIx i → tr i ≠ c34 := fun i hi e => q_c34 (e ▸ (h_tr.1 i hi).1)
  have n_c34_c8 : c34 ≠ c8 := fun e => q_c34 (by rw [e]; exact h_c8.1.1)
  have n_c34_c9 : c34 ≠ c9 := fun e => q_c34 (by rw [e]; exact h_c9.1.1)
  replace h_a := h_a.gx G42 n_a_c31
  replace h_lv := h_lv.gx G42 n_lv_c31
  replace h_im := h_im.gx G42 n_im_c31
  replace h_tr := h_tr.gx G42 n_tr_c31
  replace h_c4 := h_c4.gx G42 n_c4_c31
  replace h_c5 := h_c5.gx G42 n_c5_c31
  replace h_c6 := h_c6.gx G42 n_c6_c31
  replace h_c7 := h_c7.gx G42 n_c7_c31
  replace h_c8 := h_c8.gx G42 n_c8_c31
  replace h_c9 := h_c9.gx G42 n_c9_c31
  replace h_c10 := h_c10.gx G42 n_c10_c31
  replace h_c11 := h_c11.gx G42 n_c11_c31
  replace h_c12 := h_c12.gx G42 n_c12_c31
  replace h_c13 := h_c13.gx G42 n_c13_c31
  replace h_c14 := h_c14.gx G42 n_c14_c31
  replace h_c15 := h_c15.gx G42 n_c15_c31
  replace h_c16 := h_c16.gx G42 n_c16_c31
  replace h_c17 := h_c17.gx G42 n_c17_c31
  replace h_c18 := h_c18.gx G42 n_c18_c31
  replace h_c19 := h_c19.gx G42 n_c19_c31
  replace h_c20 := h_c20.gx G42 n_c20_c31
  replace h_c21 := h_c21.gx G42 n_c21_c31
  replace h_c22 := h_c22.gx G42 n_c22_c31
  replace h_c23 := h_c23.gx G42 n_c23_c31
  replace h_c24 := h_c24.gx G42 n_c24_c31
  replace h_c25 := h_c25.gx G42 n_c25_c31
  replace h_c26 := h_c26.gx G42 n_c26_c31
  replace h_c27 := h_c27.gx G42 n_c27_c31
  replace h_c28 := h_c28.gx G42 n_c28_c31
  replace h_c29 := h_c29.gx G42 n_c29_c31
  replace h_c30 := h_c30.gx G42 n_c30_c31
  have Gt42 : GX (fun z => z = a) S S42 := GX.tr Gt41 G42 (fun z hz e => absurd hz (e ▸ f_c31))
  clear Gt41
  clear h_c31
  have h_c31 := h_N
  clear h_N
  have Nno := Nn
  clear Nn
  have Nn := Nno.c q_c32 G42 h_c32.1.1
  replace Nn := Nn.j1 Nno q_c33 n_c32_c33 h_c33.1.1
  replace Nn := Nn.j2 Nno q_c34 n_c33_c34 n_c32_c34 h_c34.1.1
  clear Nno
  clear G42 n_c32_c33 n_c32_c34 n_c33_c34 q_c32 q_c33 q_c34 f_c32 f_c33 f_c34
  refine V_aas (pc := 128) (N := 5) 12 3 3 dX8_init_128 (by decide) (by decide) (by decide) rfl h_c9.1 h_c31.1 h_c9.2.1 (by decide) (by first | rfl | decide) (by decide) ?_
  obtain ⟨S43, eS43⟩ : ∃ Z, Z = sY S42 c9 (va_up (gY S42 c9) 3 (some c31)) := ⟨_, rfl⟩
  rw [← eS43]
  have G43 : GX (fun z => z = c9) S42 S43 := by rw [eS43]; exact gx_sY
  replace h_a := h_a.gx G43 n_a_c9
  replace h_lv := h_lv.gx G43 n_lv_c9
  replace h_im := h_im.gx G43 n_im_c9
  replace h_tr := h_tr.gx G43 n_tr_c9
  replace h_c4 := h_c4.gx G43 n_c4_c9
  replace h_c5 := h_c5.gx G43 n_c5_c9
  replace h_c6 := h_c6.gx G43 n_c6_c9
  replace h_c7 := h_c7.gx G43 n_c7_c9
  replace h_c8 := h_c8.gx G43 n_c8_c9
  replace h_c10 := h_c10.gx G43 n_c10_c9
  replace h_c11 := h_c11.gx G43 n_c11_c9
  replace h_c12 := h_c12.gx G43 n_c12_c9
  replace h_c13 := h_c13.gx G43 n_c13_c9
  replace h_c14 := h_c14.gx G43 n_c14_c9
  replace h_c15 := h_c15.gx G43 n_c15_c9
  replace h_c16 := h_c16.gx G43 n_c16_c9
  replace h_c17 := h_c17.gx G43 n_c17_c9
  replace h_c18 := h_c18.gx G43 n_c18_c9
  replace h_c19 := h_c19.gx G43 n_c19_c9
  replace h_c20 := h_c20.gx G43 n_c20_c9
  replace h_c21 := h_c21.gx G43 n_c21_c9
  replace h_c22 := h_c22.gx G43 n_c22_c9
  replace h_c23 := h_c23.gx G43 n_c23_c9
  replace h_c24 := h_c24.gx G43 n_c24_c9
  replace h_c25 := h_c25.gx G43 n_c25_c9
  replace h_c26 := h_c26.gx G43 n_c26_c9
  replace h_c27 := h_c27.gx G43 n_c27_c9
  replace h_c28 := h_c28.gx G43 n_c28_c9
  replace h_c29 := h_c29.gx G43 n_c29_c9
  replace h_c30 := h_c30.gx G43 n_c30_c9
  replace h_c31 := h_c31.gx G43 n_c31_c9
  replace h_c32 := h_c32.gx G43 n_c32_c9
  replace h_c33 := h_c33.gx G43 n_c33_c9
  replace h_c34 := h_c34.gx G43 n_c34_c9
  have Gt43 : GX (fun z => z = a) S S43 := GX.tr Gt42 G43 (fun z hz e => absurd hz (e ▸ f_c9))
  clear Gt42
  replace Nn := Nn.gx G43
  replace h_c9 : RA S43 c9 12 5 (va_up (va_up (va_up (va_up (fun _ => none) 0 (some c19)) 1 (some c23)) 2 (some c27)) 3 (some c31)) := by rw [eS43]; exact h_c9.w
  clear G43 eS43
  clear n_a_c31 n_c4_c31 n_c5_c31 n_c6_c31 n_c7_c31 n_c8_c31 n_c9_c31 n_c10_c31 n_c11_c31 n_c12_c31 n_c13_c31 n_c14_c31 n_c15_c31 n_c16_c31 n_c17_c31 n_c18_c31 n_c19_c31 n_c20_c31 n_c21_c31 n_c22_c31 n_c23_c31 n_c24_c31 n_c25_c31 n_c26_c31 n_c27_c31 n_c28_c31 n_c29_c31 n_c30_c31 q_c31 f_c31
  refine V_inc (pc := 129) (fun y => [(0, .ref a), (1, .int y)]) (w := 1) dX8_init_129 (by decide) (by decide) rfl (fun _ => rfl) (fun y129 ey129 => ?_)
  obtain rfl : y129 = nI 4 := by rw [ey129]; exact nI_1 _
  refine V_goto (pc := 132) (t := 111) dX8_init_132 (by decide) ?_
  refine V_iln (pc := 111) dX8_init_111 rfl rfl ?_
  refine V_iconst (pc := 112) (v := 5) dX8_init_112 (by decide) ?_
  refine V_cge (pc := 113) (t := 135) dX8_init_113 (by decide) (fun h => absurd h (by decide)) (fun _ => ?_)
  refine V_aln (pc := 116) dX8_init_116 rfl rfl ?_
  refine V_gr (pc := 117) 8 7 263 dX8_init_117 (FL_X8_42 rfl) rfl rfl h_a.1 ((h_a.2.1 263).trans rfl) ?_
  refine V_iln (pc := 120) dX8_init_120 rfl rfl ?_
  refine V_new (pc := 121) (jn_X8_40 dX8_init_121 rfl) (Nat.le_of_ble_eq_true rfl) (Nat.le_of_ble_eq_true rfl) (fun c35 q_c35 => ?_)
  refine bd_V (c := 3) (s := 31) rfl rfl ?_
  obtain ⟨S44, eS44⟩ : ∃ Z, Z = nO S43 c35 3 := ⟨_, rfl⟩
  rw [← eS44]
  have G44 : GX (fun z => z = c35) S43 S44 := by rw [eS44]; exact gx_O q_c35 (by decide)
  have f_c35 : c35 ∉ gL S := GX.out Gt43 q_c35
  have n_a_c35 : a ≠ c35 := fun e => q_c35 (e ▸ h_a.1.1)
  have n_c35_a := n_a_c35.symm
  have n_lv_c35 : ∀ i, wIx i → lv i ≠ c35 := fun i hi e => q_c35 (e ▸ (h_lv.1 i hi).1)
  have n_im_c35 : ∀ i, wIx i → im i ≠ c35 := fun i hi e => q_c35 (e ▸ (h_im.1 i hi).1)
  have n_tr_c35 : ∀ i, wIx i → tr i ≠ c35 := fun i hi e => q_c35 (e ▸ (h_tr.1 i hi).1)
  have n_c4_c35 : c4 ≠ c35 := fun e => q_c35 (e ▸ h_c4.1.1)
  have n_c5_c35 : c5 ≠ c35 := fun e => q_c35 (e ▸ h_c5.1.1)
  have n_c6_c35 : c6 ≠ c35 := fun e => q_c35 (e ▸ h_c6.1.1)
  have n_c7_c35 : c7 ≠ c35 := fun e => q_c35 (e ▸ h_c7.1.1)
  have n_c8_c35 : c8 ≠ c35 := fun e => q_c35 (e ▸ h_c8.1.1)
  have n_c35_c8 := n_c8_c35.symm
  have n_c9_c35 : c9 ≠ c35 := fun e => q_c35 (e ▸ h_c9.1.1)
  have n_c35_c9 := n_c9_c35.symm
  have n_c10_c35 : c10 ≠ c35 := fun e => q_c35 (e ▸ h_c10.1.1)
  have n_c11_c35 : c11 ≠ c35 := fun e => q_c35 (e ▸ h_c11.1.1)
  have n_c12_c35 : c12 ≠ c35 := fun e => q_c35 (e ▸ h_c12.1.1)
  have n_c13_c35 : c13 ≠ c35 := fun e => q_c35 (e ▸ h_c13.1.1)
  have n_c14_c35 : c14 ≠ c35 := fun e => q_c35 (e ▸ h_c14.1.1)
  have n_c15_c35 : c15 ≠ c35 := fun e => q_c35 (e ▸ h_c15.1.1)
  have n_c16_c35 : c16 ≠ c35 := fun e => q_c35 (e ▸ h_c16.1.1)
  have n_c17_c35 : c17 ≠ c35 := fun e => q_c35 (e ▸ h_c17.1.1)
  have n_c18_c35 : c18 ≠ c35 := fun e => q_c35 (e ▸ h_c18.1.1)
  have n_c19_c35 : c19 ≠ c35 := fun e => q_c35 (e ▸ h_c19.1.1)
  have n_c20_c35 : c20 ≠ c35 := fun e => q_c35 (e ▸ h_c20.1.1)
  have n_c21_c35 : c21 ≠ c35 := fun e => q_c35 (e ▸ h_c21.1.1)
  have n_c22_c35 : c22 ≠ c35 := fun e => q_c35 (e ▸ h_c22.1.1)
  have n_c23_c35 : c23 ≠ c35 := fun e => q_c35 (e ▸ h_c23.1.1)
  have n_c24_c35 : c24 ≠ c35 := fun e => q_c35 (e ▸ h_c24.1.1)
  have n_c25_c35 : c25 ≠ c35 := fun e => q_c35 (e ▸ h_c25.1.1)
  have n_c26_c35 : c26 ≠ c35 := fun e => q_c35 (e ▸ h_c26.1.1)
  have n_c27_c35 : c27 ≠ c35 := fun e => q_c35 (e ▸ h_c27.1.1)
  have n_c28_c35 : c28 ≠ c35 := fun e => q_c35 (e ▸ h_c28.1.1)
  have n_c29_c35 : c29 ≠ c35 := fun e => q_c35 (e ▸ h_c29.1.1)
  have n_c30_c35 : c30 ≠ c35 := fun e => q_c35 (e ▸ h_c30.1.1)
  have n_c31_c35 : c31 ≠ c35 := fun e => q_c35 (e ▸ h_c31.1.1)
  have n_c32_c35 : c32 ≠ c35 := fun e => q_c35 (e ▸ h_c32.1.1)
  have n_c33_c35 : c33 ≠ c35 := fun e => q_c35 (e ▸ h_c33.1.1)
  have n_c34_c35 : c34 ≠ c35 := fun e => q_c35 (e ▸ h_c34.1.1)
  replace h_a := h_a.gx G44 n_a_c35
  replace h_lv := h_lv.gx G44 n_lv_c35
  replace h_im := h_im.gx G44 n_im_c35
  replace h_tr := h_tr.gx G44 n_tr_c35
  replace h_c4 := h_c4.gx G44 n_c4_c35
  replace h_c5 := h_c5.gx G44 n_c5_c35
  replace h_c6 := h_c6.gx G44 n_c6_c35
  replace h_c7 := h_c7.gx G44 n_c7_c35
  replace h_c8 := h_c8.gx G44 n_c8_c35
  replace h_c9 := h_c9.gx G44 n_c9_c35
  replace h_c10 := h_c10.gx G44 n_c10_c35
  replace h_c11 := h_c11.gx G44 n_c11_c35
  replace h_c12 := h_c12.gx G44 n_c12_c35
  replace h_c13 := h_c13.gx G44 n_c13_c35
  replace h_c14 := h_c14.gx G44 n_c14_c35
  replace h_c15 := h_c15.gx G44 n_c15_c35
  replace h_c16 := h_c16.gx G44 n_c16_c35
  replace h_c17 := h_c17.gx G44 n_c17_c35
  replace h_c18 := h_c18.gx G44 n_c18_c35
  replace h_c19 := h_c19.gx G44 n_c19_c35
  replace h_c20 := h_c20.gx G44 n_c20_c35
  replace h_c21 := h_c21.gx G44 n_c21_c35
  replace h_c22 := h_c22.gx G44 n_c22_c35
  replace h_c23 := h_c23.gx G44 n_c23_c35
  replace h_c24 := h_c24.gx G44 n_c24_c35
  replace h_c25 := h_c25.gx G44 n_c25_c35
  replace h_c26 := h_c26.gx G44 n_c26_c35
  replace h_c27 := h_c27.gx G44 n_c27_c35
  replace h_c28 := h_c28.gx G44 n_c28_c35
  replace h_c29 := h_c29.gx G44 n_c29_c35
  replace h_c30 := h_c30.gx G44 n_c30_c35
  replace h_c31 := h_c31.gx G44 n_c31_c35
  replace h_c32 := h_c32.gx G44 n_c32_c35
  replace h_c33 := h_c33.gx G44 n_c33_c35
  replace h_c34 := h_c34.gx G44 n_c34_c35
  have Gt44 : GX (fun z => z = a) S S44 := GX.tr Gt43 G44 (fun z hz e => absurd hz (e ▸ f_c35))
  clear Gt43
  have h_c35 : OB S44 c35 3 (fun _ => none) (fun _ => 0) := by rw [eS44]; exact ob_new
  replace Nn := Nn.c q_c35 G44 h_c35.1.1
  clear G44 eS44
  refine V_dup (pc := 124) dX8_init_124 rfl ?_
  refine V_cIv (pc := 125) (jc_X8_51 dX8_init_125 rfl) rfl (Nat.le_of_ble_eq_true rfl) (Nat.le_of_ble_eq_true rfl) (Nat.le_of_ble_eq_true rfl) ?_
  refine i_X3 h_c35 (fun c36 c37 c38 S45 G45 q_c36 q_c37 q_c38 n_c36_c37 n_c36_c38 n_c37_c38 h_N h_c36 h_c37 h_c38 => ?_)
  refine bd_V (c := 0) (s := 0) rfl rfl ?_
  have f_c36 : c36 ∉ gL S := GX.out Gt44 q_c36
  have n_c36_a : c36 ≠ a := fun e => q_c36 (by rw [e]; exact h_a.1.1)
  have n_lv_c36 : ∀ i, wIx i → lv i ≠ c36 := fun i hi e => q_c36 (e ▸ (h_lv.1 i hi).1)
  have n_im_c36 : ∀ i, wIx i → im i ≠ c36 := fun i hi e => q_c36 (e ▸ (h_im.1 i hi).1)
  have n_tr_c36 : ∀ i, wIx i → tr i ≠ c36 := fun i hi e => q_c36 (e ▸ (h_tr.1 i hi).1)
  have n_c36_c8 : c36 ≠ c8 := fun e => q_c36 (by rw [e]; exact h_c8.1.1)
  have n_c36_c9 : c36 ≠ c9 := fun e => q_c36 (by rw [e]; exact h_c9.1.1)
  have f_c37 : c37 ∉ gL S := GX.out Gt44 q_c37
  have n_c37_a : c37 ≠ a := fun e => q_c37 (by rw [e]; exact h_a.1.1)
  have n_lv_c37 : ∀ i, wIx i → lv i ≠ c37 := fun i hi e => q_c37 (e ▸ (h_lv.1 i hi).1)
  have n_im_c37 : ∀ i, wIx i → im i ≠ c37 := fun i hi e => q_c37 (e ▸ (h_im.1 i hi).1)
  have n_tr_c37 : ∀ i, wIx i → tr i ≠ c37 := fun i hi e => q_c37 (e ▸ (h_tr.1 i hi).1)
  have n_c37_c8 : c37 ≠ c8 := fun e => q_c37 (by rw [e]; exact h_c8.1.1)
  have n_c37_c9 : c37 ≠ c9 := fun e => q_c37 (by rw [e]; exact h_c9.1.1)
  have f_c38 : c38 ∉ gL S := GX.out Gt44 q_c38
  have n_c38_a : c38 ≠ a := fun e => q_c38 (by rw [e]; exact h_a.1.1)
  have n_lv_c38 : ∀ i, wIx i → lv i ≠ c38 := fun i hi e => q_c38 (e ▸ (h_lv.1 i hi).1)
  have n_im_c38 : ∀ i, wIx i → im i ≠ c38 := fun i hi e => q_c38 (e ▸ (h_im.1 i hi).1)
  have n_tr_c38 : ∀ i, wIx i → tr i ≠ c38 := fun i hi e => q_c38 (e ▸ (h_tr.1 i hi).1)
  have n_c38_c8 : c38 ≠ c8 := fun e => q_c38 (by rw [e]; exact h_c8.1.1)
  have n_c38_c9 : c38 ≠ c9 := fun e => q_c38 (by rw [e]; exact h_c9.1.1)
  replace h_a := h_a.gx G45 n_a_c35
  replace h_lv := h_lv.gx G45 n_lv_c35
  replace h_im := h_im.gx G45 n_im_c35
  replace h_tr := h_tr.gx G45 n_tr_c35
  replace h_c4 := h_c4.gx G45 n_c4_c35
  replace h_c5 := h_c5.gx G45 n_c5_c35
  replace h_c6 := h_c6.gx G45 n_c6_c35
  replace h_c7 := h_c7.gx G45 n_c7_c35
  replace h_c8 := h_c8.gx G45 n_c8_c35
  replace h_c9 := h_c9.gx G45 n_c9_c35
  replace h_c10 := h_c10.gx G45 n_c10_c35
  replace h_c11 := h_c11.gx G45 n_c11_c35
  replace h_c12 := h_c12.gx G45 n_c12_c35
  replace h_c13 := h_c13.gx G45 n_c13_c35
  replace h_c14 := h_c14.gx G45 n_c14_c35
  replace h_c15 := h_c15.gx G45 n_c15_c35
  replace h_c16 := h_c16.gx G45 n_c16_c35
  replace h_c17 := h_c17.gx G45 n_c17_c35
  replace h_c18 := h_c18.gx G45 n_c18_c35
  replace h_c19 := h_c19.gx G45 n_c19_c35
  replace h_c20 := h_c20.gx G45 n_c20_c35
  replace h_c21 := h_c21.gx G45 n_c21_c35
  replace h_c22 := h_c22.gx G45 n_c22_c35
  replace h_c23 := h_c23.gx G45 n_c23_c35
  replace h_c24 := h_c24.gx G45 n_c24_c35
  replace h_c25 := h_c25.gx G45 n_c25_c35
  replace h_c26 := h_c26.gx G45 n_c26_c35
  replace h_c27 := h_c27.gx G45 n_c27_c35
  replace h_c28 := h_c28.gx G45 n_c28_c35
  replace h_c29 := h_c29.gx G45 n_c29_c35
  replace h_c30 := h_c30.gx G45 n_c30_c35
  replace h_c31 := h_c31.gx G45 n_c31_c35
  replace h_c32 := h_c32.gx G45 n_c32_c35
  replace h_c33 := h_c33.gx G45 n_c33_c35
  replace h_c34 := h_c34.gx G45 n_c34_c35
  have Gt45 : GX (fun z => z = a) S S45 := GX.tr Gt44 G45 (fun z hz e => absurd hz (e ▸ f_c35))
  clear Gt44
  clear h_c35
  have h_c35 := h_N
  clear h_N
  have Nno := Nn
  clear Nn
  have Nn := Nno.c q_c36 G45 h_c36.1.1
  replace Nn := Nn.j1 Nno q_c37 n_c36_c37 h_c37.1.1
  replace Nn := Nn.j2 Nno q_c38 n_c37_c38 n_c36_c38 h_c38.1.1
  clear Nno
  clear G45 n_c36_c37 n_c36_c38 n_c37_c38 q_c36 q_c37 q_c38 f_c36 f_c37 f_c38
  refine V_aas (pc := 128) (N := 5) 12 3 4 dX8_init_128 (by decide) (by decide) (by decide) rfl h_c9.1 h_c35.1 h_c9.2.1 (by decide) (by first | rfl | decide) (by decide) ?_
  obtain ⟨S46, eS46⟩ : ∃ Z, Z = sY S45 c9 (va_up (gY S45 c9) 4 (some c35)) := ⟨_, rfl⟩
  rw [← eS46]
  have G46 : GX (fun z => z = c9) S45 S46 := by rw [eS46]; exact gx_sY
  replace h_a := h_a.gx G46 n_a_c9
  replace h_lv := h_lv.gx G46 n_lv_c9
  replace h_im := h_im.gx G46 n_im_c9
  replace h_tr := h_tr.gx G46 n_tr_c9
  replace h_c4 := h_c4.gx G46 n_c4_c9
  replace h_c5 := h_c5.gx G46 n_c5_c9
  replace h_c6 := h_c6.gx G46 n_c6_c9
  replace h_c7 := h_c7.gx G46 n_c7_c9
  replace h_c8 := h_c8.gx G46 n_c8_c9
  replace h_c10 := h_c10.gx G46 n_c10_c9
  replace h_c11 := h_c11.gx G46 n_c11_c9
  replace h_c12 := h_c12.gx G46 n_c12_c9
  replace h_c13 := h_c13.gx G46 n_c13_c9
  replace h_c14 := h_c14.gx G46 n_c14_c9
  replace h_c15 := h_c15.gx G46 n_c15_c9
  replace h_c16 := h_c16.gx G46 n_c16_c9
  replace h_c17 := h_c17.gx G46 n_c17_c9
  replace h_c18 := h_c18.gx G46 n_c18_c9
  replace h_c19 := h_c19.gx G46 n_c19_c9
  replace h_c20 := h_c20.gx G46 n_c20_c9
  replace h_c21 := h_c21.gx G46 n_c21_c9
  replace h_c22 := h_c22.gx G46 n_c22_c9
  replace h_c23 := h_c23.gx G46 n_c23_c9
  replace h_c24 := h_c24.gx G46 n_c24_c9
  replace h_c25 := h_c25.gx G46 n_c25_c9
  replace h_c26 := h_c26.gx G46 n_c26_c9
  replace h_c27 := h_c27.gx G46 n_c27_c9
  replace h_c28 := h_c28.gx G46 n_c28_c9
  replace h_c29 := h_c29.gx G46 n_c29_c9
  replace h_c30 := h_c30.gx G46 n_c30_c9
  replace h_c31 := h_c31.gx G46 n_c31_c9
  replace h_c32 := h_c32.gx G46 n_c32_c9
  replace h_c33 := h_c33.gx G46 n_c33_c9
  replace h_c34 := h_c34.gx G46 n_c34_c9
  replace h_c35 := h_c35.gx G46 n_c35_c9
  replace h_c36 := h_c36.gx G46 n_c36_c9
  replace h_c37 := h_c37.gx G46 n_c37_c9
  replace h_c38 := h_c38.gx G46 n_c38_c9
  have Gt46 : GX (fun z => z = a) S S46 := GX.tr Gt45 G46 (fun z hz e => absurd hz (e ▸ f_c9))
  clear Gt45
  replace Nn := Nn.gx G46
  replace h_c9 : RA S46 c9 12 5 (va_up (va_up (va_up (va_up (va_up (fun _ => none) 0 (some c19)) 1 (some c23)) 2 (some c27)) 3 (some c31)) 4 (some c35)) := by rw [eS46]; exact h_c9.w
  clear G46 eS46
  clear n_a_c35 n_c4_c35 n_c5_c35 n_c6_c35 n_c7_c35 n_c8_c35 n_c9_c35 n_c10_c35 n_c11_c35 n_c12_c35 n_c13_c35 n_c14_c35 n_c15_c35 n_c16_c35 n_c17_c35 n_c18_c35 n_c19_c35 n_c20_c35 n_c21_c35 n_c22_c35 n_c23_c35 n_c24_c35 n_c25_c35 n_c26_c35 n_c27_c35 n_c28_c35 n_c29_c35 n_c30_c35 n_c31_c35 n_c32_c35 n_c33_c35 n_c34_c35 q_c35 f_c35
  refine V_inc (pc := 129) (fun y => [(0, .ref a), (1, .int y)]) (w := 1) dX8_init_129 (by decide) (by decide) rfl (fun _ => rfl) (fun y129 ey129 => ?_)
  obtain rfl : y129 = nI 5 := by rw [ey129]; exact nI_1 _
  refine V_goto (pc := 132) (t := 111) dX8_init_132 (by decide) ?_
  refine V_iln (pc := 111) dX8_init_111 rfl rfl ?_
  refine V_iconst (pc := 112) (v := 5) dX8_init_112 (by decide) ?_
  refine V_cge (pc := 113) (t := 135) dX8_init_113 (by decide) (fun _ => ?_) (fun h => absurd h (by decide))
  refine V_ret (pc := 135) dX8_init_135 rfl ?_
  exact h lv im tr (fun i => [c38, c37, c36, c35, c34, c33, c32, c31, c30, c29, c28, c27, c26, c25, c24, c23, c22, c21, c20, c19, c18, c17, c16, c15, c14, c13, c12, c11, c10, c9, c8, c7, c6, c5, c4].getD (cix i) 0) S46 Gt46 (cz_mk Nn e_lv e_im e_tr n_lv_im n_lv_tr n_im_tr n_lv_c4 n_lv_c5 n_lv_c6 n_lv_c7 n_lv_c8 n_lv_c9 n_lv_c10 n_lv_c11 n_lv_c12 n_lv_c13 n_lv_c14 n_lv_c15 n_lv_c16 n_lv_c17 n_lv_c18 n_lv_c19 n_lv_c20 n_lv_c21 n_lv_c22 n_lv_c23 n_lv_c24 n_lv_c25 n_lv_c26 n_lv_c27 n_lv_c28 n_lv_c29 n_lv_c30 n_lv_c31 n_lv_c32 n_lv_c33 n_lv_c34 n_lv_c35 n_lv_c36 n_lv_c37 n_lv_c38 n_im_c4 n_im_c5 n_im_c6 n_im_c7 n_im_c8 n_im_c9 n_im_c10 n_im_c11 n_im_c12 n_im_c13 n_im_c14 n_im_c15 n_im_c16 n_im_c17 n_im_c18 n_im_c19 n_im_c20 n_im_c21 n_im_c22 n_im_c23 n_im_c24 n_im_c25 n_im_c26 n_im_c27 n_im_c28 n_im_c29 n_im_c30 n_im_c31 n_im_c32 n_im_c33 n_im_c34 n_im_c35 n_im_c36 n_im_c37 n_im_c38 n_tr_c4 n_tr_c5 n_tr_c6 n_tr_c7 n_tr_c8 n_tr_c9 n_tr_c10 n_tr_c11 n_tr_c12 n_tr_c13 n_tr_c14 n_tr_c15 n_tr_c16 n_tr_c17 n_tr_c18 n_tr_c19 n_tr_c20 n_tr_c21 n_tr_c22 n_tr_c23 n_tr_c24 n_tr_c25 n_tr_c26 n_tr_c27 n_tr_c28 n_tr_c29 n_tr_c30 n_tr_c31 n_tr_c32 n_tr_c33 n_tr_c34 n_tr_c35 n_tr_c36 n_tr_c37 n_tr_c38 h_a h_c4 h_c5 h_c6 h_c7 h_c8 h_c9 h_c10 h_c11 h_c12 h_c13 h_c14 h_c15 h_c16 h_c17 h_c18 h_c19 h_c20 h_c21 h_c22 h_c23 h_c24 h_c25 h_c26 h_c27 h_c28 h_c29 h_c30 h_c31 h_c32 h_c33 h_c34 h_c35 h_c36 h_c37 h_c38 h_lv h_im h_tr)
