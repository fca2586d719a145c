/-- Math.max -/
def tq_max : tr := fun _ d b ls st S K => match st with
  | .int v :: .int u :: r => (1 ≤ d ∧ cats r ≤ 8) ∧ K b ls (.int (if u < v then v else u) :: r) S
  | _ => False
theorem J_max {M : pM} {pc i : Nat} (hd : decode (mB M) pc = .ok (.invokestatic i, 3)) (hw : Cond.methodLink (mY M).cls i Lib.Math.max.name ∈ GW) (hw2 : Cond.static Lib.Math.max.name ∈ GW) (hw3 : Cond.initialized "java/lang/Math" ∈ GW) (hw4 : Cond.code Lib.Math.max.name Lib.Math.max.code 2 (some .int) ∈ GW) : J M pc (pc + 3) tq_max := by
  intro x d Q b ls st S K hK h
  unfold tq_max at h
  split at h
  · obtain ⟨ho, h⟩ := h
    have k := hK _ _ _ _ h
    intro p l e R s m args below meth c Z A D cy C H locs cells slots la hP h1 h2 hl
    have hR := C.2.2.2.2.1
    have hc := ho.2
    unfold cats at hc
    exact va_mmax C.1.1 C.1.2.1 (C.1.2.2.1.trans hl.1.symm) C.1.2.2.2.1 (C.1.2.2.2.2 _ hw) (C.1.2.2.2.2 _ hw2) (C.1.2.2.2.2 _ hw3) (C.1.2.2.2.2 _ hw4) (by omega) (by omega) (by omega) (by omega) hd (k p l e R s m args below meth c Z A D cy C H locs cells slots la hP h1 h2 hl)
  · exact h.elim
theorem V_max {x : pX} {d : Nat} {M : pM} {Q : Option Value → pS → Prop} {b : Nat × Nat} {pc : Nat} {ls : List (Nat × Value)} {st : List Value} {S : pS} {u v : Int32} (hd : J M pc (pc + 3) tq_max) (hd1 : 1 ≤ d) (hc : cats st ≤ 8) (kk : V x d M Q b (pc + 3) ls (.int (if u < v then v else u) :: st) S) : V x d M Q b pc ls (.int v :: .int u :: st) S := hd.v ⟨⟨hd1, hc⟩, kk⟩
theorem jm_X1_68 {M : pM} {pc : Nat} (hd : decode (mB M) pc = .ok (.invokestatic 68, 3)) (h : (mY M).cls = RX1) : J M pc (pc + 3) tq_max := J_max hd (by rw [h]; exact gw 855 (by decide +kernel) rfl) (gw 373 (by decide +kernel) rfl) (gw 72 (by decide +kernel) rfl) (gw 374 (by decide +kernel) rfl)
theorem jm_X5_20 {M : pM} {pc : Nat} (hd : decode (mB M) pc = .ok (.invokestatic 20, 3)) (h : (mY M).cls = RX5) : J M pc (pc + 3) tq_max := J_max hd (by rw [h]; exact gw 833 (by decide +kernel) rfl) (gw 373 (by decide +kernel) rfl) (gw 72 (by decide +kernel) rfl) (gw 374 (by decide +kernel) rfl)
theorem jm_X7_159 {M : pM} {pc : Nat} (hd : decode (mB M) pc = .ok (.invokestatic 159, 3)) (h : (mY M).cls = RX7) : J M pc (pc + 3) tq_max := J_max hd (by rw [h]; exact gw 629 (by decide +kernel) rfl) (gw 373 (by decide +kernel) rfl) (gw 72 (by decide +kernel) rfl) (gw 374 (by decide +kernel) rfl)
theorem jm_X8_343 {M : pM} {pc : Nat} (hd : decode (mB M) pc = .ok (.invokestatic 343, 3)) (h : (mY M).cls = RX8) : J M pc (pc + 3) tq_max := J_max hd (by rw [h]; exact gw 372 (by decide +kernel) rfl) (gw 373 (by decide +kernel) rfl) (gw 72 (by decide +kernel) rfl) (gw 374 (by decide +kernel) rfl)
theorem jm_J1_92 {M : pM} {pc : Nat} (hd : decode (mB M) pc = .ok (.invokestatic 92, 3)) (h : (mY M).cls = RJ1) : J M pc (pc + 3) tq_max := J_max hd (by rw [h]; exact gw 768 (by decide +kernel) rfl) (gw 373 (by decide +kernel) rfl) (gw 72 (by decide +kernel) rfl) (gw 374 (by decide +kernel) rfl)
theorem jm_J2_224 {M : pM} {pc : Nat} (hd : decode (mB M) pc = .ok (.invokestatic 224, 3)) (h : (mY M).cls = RJ2) : J M pc (pc + 3) tq_max := J_max hd (by rw [h]; exact gw 776 (by decide +kernel) rfl) (gw 373 (by decide +kernel) rfl) (gw 72 (by decide +kernel) rfl) (gw 374 (by decide +kernel) rfl)
/-- Math.min -/
def tq_min : tr := fun _ d b ls st S K => match st with
  | .int v :: .int u :: r => (1 ≤ d ∧ cats r ≤ 8) ∧ K b ls (.int (if v < u then v else u) :: r) S
  | _ => False
theorem J_min {M : pM} {pc i : Nat} (hd : decode (mB M) pc = .ok (.invokestatic i, 3)) (hw : Cond.methodLink (mY M).cls i Lib.Math.min.name ∈ GW) (hw2 : Cond.static Lib.Math.min.name ∈ GW) (hw3 : Cond.initialized "java/lang/Math" ∈ GW) (hw4 : Cond.code Lib.Math.min.name Lib.Math.min.code 2 (some .int) ∈ GW) : J M pc (pc + 3) tq_min := by
  intro x d Q b ls st S K hK h
  unfold tq_min at h
  split at h
  · obtain ⟨ho, h⟩ := h
    have k := hK _ _ _ _ h
    intro p l e R s m args below meth c Z A D cy C H locs cells slots la hP h1 h2 hl
    have hR := C.2.2.2.2.1
    have hc := ho.2
    unfold cats at hc
    exact va_mmin C.1.1 C.1.2.1 (C.1.2.2.1.trans hl.1.symm) C.1.2.2.2.1 (C.1.2.2.2.2 _ hw) (C.1.2.2.2.2 _ hw2) (C.1.2.2.2.2 _ hw3) (C.1.2.2.2.2 _ hw4) (by omega) (by omega) (by omega) (by omega) hd (k p l e R s m args below meth c Z A D cy C H locs cells slots la hP h1 h2 hl)
  · exact h.elim
theorem V_min {x : pX} {d : Nat} {M : pM} {Q : Option Value → pS → Prop} {b : Nat × Nat} {pc : Nat} {ls : List (Nat × Value)} {st : List Value} {S : pS} {u v : Int32} (hd : J M pc (pc + 3) tq_min) (hd1 : 1 ≤ d) (hc : cats st ≤ 8) (kk : V x d M Q b (pc + 3) ls (.int (if v < u then v else u) :: st) S) : V x d M Q b pc ls (.int v :: .int u :: st) S := hd.v ⟨⟨hd1, hc⟩, kk⟩
theorem jm_X7_150 {M : pM} {pc : Nat} (hd : decode (mB M) pc = .ok (.invokestatic 150, 3)) (h : (mY M).cls = RX7) : J M pc (pc + 3) tq_min := J_min hd (by rw [h]; exact gw 379 (by decide +kernel) rfl) (gw 370 (by decide +kernel) rfl) (gw 72 (by decide +kernel) rfl) (gw 371 (by decide +kernel) rfl)
theorem jm_X8_338 {M : pM} {pc : Nat} (hd : decode (mB M) pc = .ok (.invokestatic 338, 3)) (h : (mY M).cls = RX8) : J M pc (pc + 3) tq_min := J_min hd (by rw [h]; exact gw 369 (by decide +kernel) rfl) (gw 370 (by decide +kernel) rfl) (gw 72 (by decide +kernel) rfl) (gw 371 (by decide +kernel) rfl)
theorem jm_J1_38 {M : pM} {pc : Nat} (hd : decode (mB M) pc = .ok (.invokestatic 38, 3)) (h : (mY M).cls = RJ1) : J M pc (pc + 3) tq_min := J_min hd (by rw [h]; exact gw 769 (by decide +kernel) rfl) (gw 370 (by decide +kernel) rfl) (gw 72 (by decide +kernel) rfl) (gw 371 (by decide +kernel) rfl)
theorem jm_J2_183 {M : pM} {pc : Nat} (hd : decode (mB M) pc = .ok (.invokestatic 183, 3)) (h : (mY M).cls = RJ2) : J M pc (pc + 3) tq_min := J_min hd (by rw [h]; exact gw 777 (by decide +kernel) rfl) (gw 370 (by decide +kernel) rfl) (gw 72 (by decide +kernel) rfl) (gw 371 (by decide +kernel) rfl)
theorem jm_J7_304 {M : pM} {pc : Nat} (hd : decode (mB M) pc = .ok (.invokestatic 304, 3)) (h : (mY M).cls = RJ7) : J M pc (pc + 3) tq_min := J_min hd (by rw [h]; exact gw 827 (by decide +kernel) rfl) (gw 370 (by decide +kernel) rfl) (gw 72 (by decide +kernel) rfl) (gw 371 (by decide +kernel) rfl)
