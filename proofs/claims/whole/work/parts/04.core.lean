/-! ===== the pool: addresses and kinds; int fields, ref fields (by 32 * kind + slot, then address); lengths; int rows, ref rows ===== -/
abbrev pS : Type := (List Nat × (Nat → Nat)) × ((Nat → Nat → Int32) × (Nat → Nat → Option Nat)) × (Nat → Nat) × ((Nat → Nat → Int32) × (Nat → Nat → Option Nat))
def gL (S : pS) : List Nat := S.1.1
def gK (S : pS) : Nat → Nat := S.1.2
def gI (S : pS) : Nat → Nat → Int32 := S.2.1.1
def gR (S : pS) : Nat → Nat → Option Nat := S.2.1.2
def gN (S : pS) : Nat → Nat := S.2.2.1
def gX (S : pS) : Nat → Nat → Int32 := S.2.2.2.1
def gY (S : pS) : Nat → Nat → Option Nat := S.2.2.2.2
def sI (S : pS) (f a : Nat) (v : Int32) : pS := (S.1, (va_up (gI S) f (va_up (gI S f) a v), gR S), S.2.2)
def sR (S : pS) (f a : Nat) (v : Option Nat) : pS := (S.1, (gI S, va_up (gR S) f (va_up (gR S f) a v)), S.2.2)
def sX (S : pS) (a : Nat) (r : Nat → Int32) : pS := (S.1, S.2.1, gN S, va_up (gX S) a r, gY S)
def sY (S : pS) (a : Nat) (r : Nat → Option Nat) : pS := (S.1, S.2.1, gN S, gX S, va_up (gY S) a r)
def nO (S : pS) (a k : Nat) : pS := ((gL S ++ [a], va_up (gK S) a k), (fun f => va_up (gI S f) a 0, fun f => va_up (gR S f) a none), S.2.2)
def nX (S : pS) (a n : Nat) : pS := ((gL S ++ [a], va_up (gK S) a 10), S.2.1, va_up (gN S) a n, va_up (gX S) a (fun _ => 0), gY S)
def nY (S : pS) (a k n : Nat) : pS := ((gL S ++ [a], va_up (gK S) a k), S.2.1, va_up (gN S) a n, gX S, va_up (gY S) a (fun _ => none))
def hk (S : pS) (a k : Nat) : Prop := a ∈ gL S ∧ gK S a = k
/-! tables of the ten classes -/
def nF : Nat → Nat
  | 0 => 2
  | 1 => 9
  | 2 => 3
  | 3 => 4
  | 4 => 2
  | 5 => 4
  | 6 => 4
  | 7 => 12
  | 8 => 10
  | _ => 30
def TF : Nat → u_T
  | 0 => TX0
  | 1 => TX1
  | 2 => TX2
  | 3 => TX3
  | 4 => TX4
  | 5 => TX5
  | 6 => TX6
  | 7 => TX7
  | 8 => TX8
  | _ => TX9
def RF : Nat → String
  | 0 => RX0
  | 1 => RX1
  | 2 => RX2
  | 3 => RX3
  | 4 => RX4
  | 5 => RX5
  | 6 => RX6
  | 7 => RX7
  | 8 => RX8
  | _ => RX9
def tyF : Nat → Nat → FieldType
  | 0 => tyX0
  | 1 => tyX1
  | 2 => tyX2
  | 3 => tyX3
  | 4 => tyX4
  | 5 => tyX5
  | 6 => tyX6
  | 7 => tyX7
  | 8 => tyX8
  | _ => tyX9
theorem ten {P : Nat → Prop} (h0 : P 0) (h1 : P 1) (h2 : P 2) (h3 : P 3) (h4 : P 4) (h5 : P 5) (h6 : P 6) (h7 : P 7) (h8 : P 8) (h9 : P 9) : ∀ k, k < 10 → P k := by
  intro k hk
  match k, hk with
  | 0, _ => exact h0
  | 1, _ => exact h1
  | 2, _ => exact h2
  | 3, _ => exact h3
  | 4, _ => exact h4
  | 5, _ => exact h5
  | 6, _ => exact h6
  | 7, _ => exact h7
  | 8, _ => exact h8
  | 9, _ => exact h9
  | k + 10, h => exact absurd h (by omega)
theorem F_cl : ∀ k, k < 10 → vwCl[k]? = some (RF k, TF k, nF k) := ten rfl rfl rfl rfl rfl rfl rfl rfl rfl rfl
theorem F_ty : ∀ k, k < 10 → ∀ j, j < nF k → parseFieldDescriptor (TF k j).2.2.1 = some (tyF k j) := ten tyX0_ok tyX1_ok tyX2_ok tyX3_ok tyX4_ok tyX5_ok tyX6_ok tyX7_ok tyX8_ok tyX9_ok
theorem F_nm : ∀ k, k < 10 → ∀ a, a < nF k → ∀ b, b < nF k → a ≠ b → (TF k a).2.1 ≠ (TF k b).2.1 := ten nmX0 nmX1 nmX2 nmX3 nmX4 nmX5 nmX6 nmX7 nmX8 nmX9
theorem F_ws : ∀ k, k < 10 → ∀ w ∈ u_ws (RF k) (TF k) (nF k), w ∈ GW := ten fwX0 fwX1 fwX2 fwX3 fwX4 fwX5 fwX6 fwX7 fwX8 fwX9
def fint (k j : Nat) : Bool := match tyF k j with
  | .int => true
  | .boolean => true
  | _ => false
def fo (S : pS) (k a : Nat) : List Value := (List.range (nF k)).map fun j => if fint k j then .int (gI S (32 * k + j) a) else va_rf (gR S (32 * k + j) a)
def pF (cy : Nat → ClassId) (S : pS) : Nat → va_E := fun a => if gK S a < 10 then .inr (gK S a, fo S (gK S a) a) else if gK S a = 10 then .inl (cy 10, gN S a, .inl (gX S a)) else .inl (cy (gK S a), gN S a, .inr (.inr (.inr (.inr (gY S a)))))
def aC : Nat → String
  | 11 => RX2
  | 12 => RX3
  | 13 => RX5
  | _ => RX6
def tys (cy : Nat → ClassId) : List (ClassId × FieldType) := [(cy 10, .int), (cy 11, .object RX2), (cy 12, .object RX3), (cy 13, .object RX5), (cy 14, .object RX6)]
theorem tys_at (cy : Nat → ClassId) {k : Nat} (h1 : 10 < k) (h2 : k < 15) : (tys cy)[k - 10]? = some (cy k, .object (aC k)) := by
  match k, h1, h2 with
  | 11, _, _ => rfl
  | 12, _, _ => rfl
  | 13, _, _ => rfl
  | 14, _, _ => rfl
/-! how writes show in the pool's rows -/
theorem gI_sI (S : pS) (f a : Nat) (v : Int32) (g b : Nat) : gI (sI S f a v) g b = if g = f ∧ b = a then v else gI S g b := by
  simp only [sI, gI, va_up]
  by_cases h1 : g = f
  · subst h1
    by_cases h2 : b = a <;> simp [h2, va_up]
  · simp [h1]
theorem gR_sR (S : pS) (f a : Nat) (v : Option Nat) (g b : Nat) : gR (sR S f a v) g b = if g = f ∧ b = a then v else gR S g b := by
  simp only [sR, gR, va_up]
  by_cases h1 : g = f
  · subst h1
    by_cases h2 : b = a <;> simp [h2, va_up]
  · simp [h1]
theorem fo_len (S : pS) (k a : Nat) : (fo S k a).length = nF k := by simp [fo]
theorem fo_at (S : pS) (k a : Nat) {j : Nat} (hj : j < nF k) : (fo S k a)[j]? = some (if fint k j then .int (gI S (32 * k + j) a) else va_rf (gR S (32 * k + j) a)) := by
  simp [fo, List.getElem?_map, List.getElem?_range hj]
theorem fo_sI_ne (S : pS) (f a : Nat) (v : Int32) (k b : Nat) (h : b ≠ a) : fo (sI S f a v) k b = fo S k b := by
  unfold fo
  apply List.map_congr_left
  intro j _
  have e : gI (sI S f a v) (32 * k + j) b = gI S (32 * k + j) b := by rw [gI_sI, if_neg (fun q => h q.2)]
  rw [e]
  rfl
theorem fo_sR_ne (S : pS) (f a : Nat) (v : Option Nat) (k b : Nat) (h : b ≠ a) : fo (sR S f a v) k b = fo S k b := by
  unfold fo
  apply List.map_congr_left
  intro j _
  have e : gR (sR S f a v) (32 * k + j) b = gR S (32 * k + j) b := by rw [gR_sR, if_neg (fun q => h q.2)]
  rw [e]
  rfl
theorem fo_sI (S : pS) (k j a : Nat) (v : Int32) (hj : j < nF k) (hf : fint k j = true) : fo (sI S (32 * k + j) a v) k a = (fo S k a).set j (.int v) := by
  apply List.ext_getElem?
  intro i
  by_cases hi : i < nF k
  · rw [fo_at _ _ _ hi]
    by_cases hij : i = j
    · subst hij
      have e : gI (sI S (32 * k + i) a v) (32 * k + i) a = v := by rw [gI_sI, if_pos ⟨rfl, rfl⟩]
      rw [List.getElem?_set_self (by rw [fo_len]; exact hi), e, if_pos hf]
    · have e : gI (sI S (32 * k + j) a v) (32 * k + i) a = gI S (32 * k + i) a := by rw [gI_sI, if_neg (fun q => hij (by omega))]
      rw [List.getElem?_set_ne (Ne.symm hij), fo_at _ _ _ hi, e]
      rfl
  · rw [List.getElem?_eq_none (by rw [fo_len]; omega), List.getElem?_eq_none (by rw [List.length_set, fo_len]; omega)]
theorem fo_sR (S : pS) (k j a : Nat) (v : Option Nat) (hj : j < nF k) (hf : fint k j = false) : fo (sR S (32 * k + j) a v) k a = (fo S k a).set j (va_rf v) := by
  apply List.ext_getElem?
  intro i
  by_cases hi : i < nF k
  · rw [fo_at _ _ _ hi]
    by_cases hij : i = j
    · subst hij
      have e : gR (sR S (32 * k + i) a v) (32 * k + i) a = v := by rw [gR_sR, if_pos ⟨rfl, rfl⟩]
      rw [List.getElem?_set_self (by rw [fo_len]; exact hi), e, hf]
      rfl
    · have e : gR (sR S (32 * k + j) a v) (32 * k + i) a = gR S (32 * k + i) a := by rw [gR_sR, if_neg (fun q => hij (by omega))]
      rw [List.getElem?_set_ne (Ne.symm hij), fo_at _ _ _ hi, e]
      rfl
  · rw [List.getElem?_eq_none (by rw [fo_len]; omega), List.getElem?_eq_none (by rw [List.length_set, fo_len]; omega)]
theorem pF_obj (cy : Nat → ClassId) (S : pS) {a k : Nat} (hk : gK S a = k) (h : k < 10) : pF cy S a = .inr (k, fo S k a) := by
  unfold pF
  rw [hk, if_pos h]
theorem pF_int (cy : Nat → ClassId) (S : pS) {a : Nat} (hk : gK S a = 10) : pF cy S a = .inl (cy 10, gN S a, .inl (gX S a)) := by
  unfold pF
  rw [hk, if_neg (by omega), if_pos rfl]
theorem pF_ref (cy : Nat → ClassId) (S : pS) {a k : Nat} (hk : gK S a = k) (h : 10 < k) : pF cy S a = .inl (cy k, gN S a, .inr (.inr (.inr (.inr (gY S a))))) := by
  unfold pF
  rw [hk, if_neg (by omega), if_neg (by omega)]
theorem pF_sI (cy : Nat → ClassId) (S : pS) {a k j : Nat} (v : Int32) (hk : gK S a = k) (h : k < 10) (hj : j < nF k) (hf : fint k j = true) (b : Nat) : va_up (pF cy S) a (.inr (k, (fo S k a).set j (.int v))) b = pF cy (sI S (32 * k + j) a v) b := by
  by_cases hb : b = a
  · subst hb
    rw [va_up_self, pF_obj cy _ (show gK (sI S (32 * k + j) b v) b = k from hk) h, fo_sI S k j b v hj hf]
  · rw [va_up_ne _ _ hb]
    unfold pF
    show (if gK S b < 10 then _ else _) = (if gK S b < 10 then _ else _)
    rw [fo_sI_ne _ _ _ _ _ _ hb]
    rfl
theorem pF_sR (cy : Nat → ClassId) (S : pS) {a k j : Nat} (v : Option Nat) (hk : gK S a = k) (h : k < 10) (hj : j < nF k) (hf : fint k j = false) (b : Nat) : va_up (pF cy S) a (.inr (k, (fo S k a).set j (va_rf v))) b = pF cy (sR S (32 * k + j) a v) b := by
  by_cases hb : b = a
  · subst hb
    rw [va_up_self, pF_obj cy _ (show gK (sR S (32 * k + j) b v) b = k from hk) h, fo_sR S k j b v hj hf]
  · rw [va_up_ne _ _ hb]
    unfold pF
    show (if gK S b < 10 then _ else _) = (if gK S b < 10 then _ else _)
    rw [fo_sR_ne _ _ _ _ _ _ hb]
    rfl
theorem pF_sX (cy : Nat → ClassId) (S : pS) {a : Nat} (r : Nat → Int32) (hk : gK S a = 10) (b : Nat) : va_up (pF cy S) a (.inl (cy 10, gN S a, .inl r)) b = pF cy (sX S a r) b := by
  by_cases hb : b = a
  · subst hb
    rw [va_up_self, pF_int cy (sX S b r) hk]
    show _ = (Sum.inl (cy 10, gN S b, Sum.inl (va_up (gX S) b r b)) : va_E)
    rw [va_up_self]
  · rw [va_up_ne _ _ hb]
    unfold pF
    show (if gK S b < 10 then _ else _) = (if gK S b < 10 then _ else if gK S b = 10 then Sum.inl (cy 10, gN S b, Sum.inl (va_up (gX S) a r b)) else _)
    rw [va_up_ne _ _ hb]
    rfl
theorem pF_sY (cy : Nat → ClassId) (S : pS) {a k : Nat} (r : Nat → Option Nat) (hk : gK S a = k) (h : 10 < k) (b : Nat) : va_up (pF cy S) a (.inl (cy k, gN S a, .inr (.inr (.inr (.inr r))))) b = pF cy (sY S a r) b := by
  by_cases hb : b = a
  · subst hb
    rw [va_up_self, pF_ref cy (sY S b r) hk h]
    show _ = (Sum.inl (cy k, gN S b, Sum.inr (Sum.inr (Sum.inr (Sum.inr (va_up (gY S) b r b))))) : va_E)
    rw [va_up_self]
  · rw [va_up_ne _ _ hb]
    unfold pF
    show (if gK S b < 10 then _ else _) = (if gK S b < 10 then _ else if gK S b = 10 then _ else Sum.inl (cy (gK S b), gN S b, Sum.inr (Sum.inr (Sum.inr (Sum.inr (va_up (gY S) a r b))))))
    rw [va_up_ne _ _ hb]
    rfl
theorem fo_nO_ne (S : pS) (a k0 k b : Nat) (h : b ≠ a) : fo (nO S a k0) k b = fo S k b := by
  unfold fo
  apply List.map_congr_left
  intro j _
  show (if fint k j then Value.int (va_up (gI S (32 * k + j)) a 0 b) else va_rf (va_up (gR S (32 * k + j)) a none b)) = _
  rw [va_up_ne _ _ h, va_up_ne _ _ h]
def f0 (k : Nat) : List Value := (List.range (nF k)).map fun j => if fint k j then .int 0 else .null
theorem pF_nO (cy : Nat → ClassId) (S : pS) (a k : Nat) (h : k < 10) (b : Nat) : va_up (pF cy S) a (.inr (k, f0 k)) b = pF cy (nO S a k) b := by
  by_cases hb : b = a
  · subst hb
    rw [va_up_self, pF_obj cy (nO S b k) (show va_up (gK S) b k b = k from va_up_self _ _ _) h]
    congr 2
    unfold f0 fo
    apply List.map_congr_left
    intro j _
    show _ = (if fint k j then Value.int (va_up (gI S (32 * k + j)) b 0 b) else va_rf (va_up (gR S (32 * k + j)) b none b))
    rw [va_up_self, va_up_self]
    rfl
  · rw [va_up_ne _ _ hb]
    unfold pF
    show _ = (if va_up (gK S) a k b < 10 then Sum.inr (va_up (gK S) a k b, fo (nO S a k) (va_up (gK S) a k b) b) else if va_up (gK S) a k b = 10 then _ else Sum.inl (cy (va_up (gK S) a k b), _, _))
    rw [va_up_ne _ _ hb, fo_nO_ne _ _ _ _ _ hb]
    rfl
theorem pF_nX (cy : Nat → ClassId) (S : pS) (a n : Nat) (b : Nat) : va_up (pF cy S) a (.inl (cy 10, n, .inl (fun _ => 0))) b = pF cy (nX S a n) b := by
  by_cases hb : b = a
  · subst hb
    rw [va_up_self, pF_int cy (nX S b n) (show va_up (gK S) b 10 b = 10 from va_up_self _ _ _)]
    show _ = (Sum.inl (cy 10, va_up (gN S) b n b, Sum.inl (va_up (gX S) b (fun _ => 0) b)) : va_E)
    rw [va_up_self, va_up_self]
  · rw [va_up_ne _ _ hb]
    unfold pF
    show _ = (if va_up (gK S) a 10 b < 10 then Sum.inr (va_up (gK S) a 10 b, fo (nX S a n) (va_up (gK S) a 10 b) b) else if va_up (gK S) a 10 b = 10 then Sum.inl (cy 10, va_up (gN S) a n b, Sum.inl (va_up (gX S) a (fun _ => 0) b)) else Sum.inl (cy (va_up (gK S) a 10 b), va_up (gN S) a n b, _))
    rw [va_up_ne _ _ hb, va_up_ne _ _ hb, va_up_ne _ _ hb]
    rfl
theorem pF_nY (cy : Nat → ClassId) (S : pS) (a k n : Nat) (h : 10 < k) (b : Nat) : va_up (pF cy S) a (.inl (cy k, n, .inr (.inr (.inr (.inr (fun _ => none)))))) b = pF cy (nY S a k n) b := by
  by_cases hb : b = a
  · subst hb
    rw [va_up_self, pF_ref cy (nY S b k n) (show va_up (gK S) b k b = k from va_up_self _ _ _) h]
    show _ = (Sum.inl (cy k, va_up (gN S) b n b, Sum.inr (Sum.inr (Sum.inr (Sum.inr (va_up (gY S) b (fun _ => none) b))))) : va_E)
    rw [va_up_self, va_up_self]
  · rw [va_up_ne _ _ hb]
    unfold pF
    show _ = (if va_up (gK S) a k b < 10 then Sum.inr (va_up (gK S) a k b, fo (nY S a k n) (va_up (gK S) a k b) b) else if va_up (gK S) a k b = 10 then Sum.inl (cy 10, va_up (gN S) a n b, Sum.inl (gX S b)) else Sum.inl (cy (va_up (gK S) a k b), va_up (gN S) a n b, Sum.inr (Sum.inr (Sum.inr (Sum.inr (va_up (gY S) a (fun _ => none) b))))))
    rw [va_up_ne _ _ hb, va_up_ne _ _ hb, va_up_ne _ _ hb]
    rfl
