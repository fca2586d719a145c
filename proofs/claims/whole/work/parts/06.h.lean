/-! ===== rows of the heap ===== -/
theorem pl_at {L : List Nat} {f : Nat → va_E} {a : Nat} (h : a ∈ L) : ∃ k : Nat, (va_pl L f)[k]? = some (a, f a) := va_pl_get (X := []) h
theorem pl_set {A : Nat → Prop} {L : List Nat} {f : Nat → va_E} {a k : Nat} {e : va_E} (hD : va_D A (va_pl L f)) (h : a ∈ L) (hk : (va_pl L f)[k]? = some (a, f a)) : (va_pl L f).set k (a, e) = va_pl L (va_up f a e) := va_pl_set (X := []) hD h hk
theorem pl_obj {cy : Nat → ClassId} {S : pS} {a k : Nat} (h : hk S a k) (h10 : k < 10) : ∃ q : Nat, (va_pl (gL S) (pF cy S))[q]? = some (a, pF cy S a) ∧ (va_pl (gL S) (pF cy S))[q]? = some (a, .inr (k, fo S k a)) := by
  obtain ⟨q, hq⟩ := pl_at (f := pF cy S) h.1
  exact ⟨q, hq, by rw [hq, pF_obj cy S h.2 h10]⟩
theorem pl_int {cy : Nat → ClassId} {S : pS} {a : Nat} (h : hk S a 10) : ∃ q : Nat, (va_pl (gL S) (pF cy S))[q]? = some (a, pF cy S a) ∧ (va_pl (gL S) (pF cy S))[q]? = some (a, .inl (cy 10, gN S a, .inl (gX S a))) := by
  obtain ⟨q, hq⟩ := pl_at (f := pF cy S) h.1
  exact ⟨q, hq, by rw [hq, pF_int cy S h.2]⟩
theorem pl_ref {cy : Nat → ClassId} {S : pS} {a k : Nat} (h : hk S a k) (h10 : 10 < k) : ∃ q : Nat, (va_pl (gL S) (pF cy S))[q]? = some (a, pF cy S a) ∧ (va_pl (gL S) (pF cy S))[q]? = some (a, .inl (cy k, gN S a, .inr (.inr (.inr (.inr (gY S a)))))) := by
  obtain ⟨q, hq⟩ := pl_at (f := pF cy S) h.1
  exact ⟨q, hq, by rw [hq, pF_ref cy S h.2 h10]⟩
theorem Pool.upd {A : Nat → Prop} {D : va_G} {cy : Nat → ClassId} {s : State} {S S' : pS} {H H1 : Heap} {locs locs1 : List Loc} {a q : Nat} {e : va_E} (hP : Pool A D cy s S H locs) (ha : a ∈ gL S) (hq : (va_pl (gL S) (pF cy S))[q]? = some (a, pF cy S a)) (hL : gL S' = gL S) (hF : ∀ b, va_up (pF cy S) a e b = pF cy S' b)
    (p1 : va_P D vwCl ((va_pl (gL S) (pF cy S)).set q (a, e)) H1) (d1 : va_D A ((va_pl (gL S) (pF cy S)).set q (a, e))) (s1 : va_S A s.heap H1 locs1) : Pool A D cy s S' H1 locs1 := by
  rw [pl_set hP.2.1 ha hq, va_pl_congr hF] at p1 d1
  rw [← hL] at p1 d1
  exact ⟨p1, d1, s1⟩
section JH
variable {M : pM} {pc : Nat}
def tq_gi (k f : Nat) : tr := fun _ _ b ls st S K => match st with
  | .ref a :: r => hk S a k ∧ K b ls (.int (gI S f a) :: r) S
  | _ => False
theorem J_gi {i k j f : Nat} (hd : decode (mB M) pc = .ok (.getfield i, 3)) (h10 : k < 10) (hj : j < nF k) (hf : 32 * k + j = f) (ht : fint k j = true) (hw : Cond.fieldLink (mY M).cls i (TF k j).1 (TF k j).2.1 (TF k j).2.2.1 ∈ GW) : J M pc (pc + 3) (tq_gi k f) := by
  intro x d Q b ls st S K hK h
  unfold tq_gi at h
  split at h
  · obtain ⟨ho, h⟩ := h
    have k := hK _ _ _ _ h
    intro p l e R s m args below meth c Z A D cy C H locs cells slots la hP h1 h2 hl
    obtain ⟨q, hq, hq2⟩ := pl_obj (cy := cy) ho h10
    exact va_get (D := D) C.1.1 C.1.2.1 C.1.2.2.2.2 (F_ws _ h10) C.1.2.2.2.1 C.2.1 hP.1 q hq2 (F_cl _ h10) j hj (C.1.2.2.2.2 _ hw) (fun _ h => h) (by rw [fo_at _ _ _ hj, if_pos ht, hf]) hd (k p l e R s m args below meth c Z A D cy C H locs cells slots la hP h1 h2 hl)
  · exact h.elim
def tq_gr (k f : Nat) : tr := fun _ _ b ls st S K => match st with
  | .ref a :: r => hk S a k ∧ K b ls (va_rf (gR S f a) :: r) S
  | _ => False
theorem J_gr {i k j f : Nat} (hd : decode (mB M) pc = .ok (.getfield i, 3)) (h10 : k < 10) (hj : j < nF k) (hf : 32 * k + j = f) (ht : fint k j = false) (hw : Cond.fieldLink (mY M).cls i (TF k j).1 (TF k j).2.1 (TF k j).2.2.1 ∈ GW) : J M pc (pc + 3) (tq_gr k f) := by
  intro x d Q b ls st S K hK h
  unfold tq_gr at h
  split at h
  · obtain ⟨ho, h⟩ := h
    have k := hK _ _ _ _ h
    intro p l e R s m args below meth c Z A D cy C H locs cells slots la hP h1 h2 hl
    obtain ⟨q, hq, hq2⟩ := pl_obj (cy := cy) ho h10
    exact va_get (D := D) C.1.1 C.1.2.1 C.1.2.2.2.2 (F_ws _ h10) C.1.2.2.2.1 C.2.1 hP.1 q hq2 (F_cl _ h10) j hj (C.1.2.2.2.2 _ hw) (fun _ h => h) (by rw [fo_at _ _ _ hj, ht, hf]; rfl) hd (k p l e R s m args below meth c Z A D cy C H locs cells slots la hP h1 h2 hl)
  · exact h.elim
def tq_pi (k f : Nat) (ty : FieldType) : tr := fun _ _ b ls st S K => match st with
  | .int v :: .ref a :: r => (hk S a k ∧ narrow ty (.int v) = .int v ∧ fits ty (.int v) = true) ∧ K b ls r (sI S f a v)
  | _ => False
theorem J_pi {i k j f : Nat} {ty : FieldType} (hd : decode (mB M) pc = .ok (.putfield i, 3)) (h10 : k < 10) (hj : j < nF k) (hf : 32 * k + j = f) (ht : fint k j = true) (hty : tyF k j = ty) (hfin : (TF k j).2.2.2 = false) (hw : Cond.fieldLink (mY M).cls i (TF k j).1 (TF k j).2.1 (TF k j).2.2.1 ∈ GW) : J M pc (pc + 3) (tq_pi k f ty) := by
  intro x d Q b ls st S K hK h
  unfold tq_pi at h
  split at h
  · obtain ⟨ho, h⟩ := h
    have k := hK _ _ _ _ h
    intro p l e R s m args below meth c Z A D cy C H locs cells slots la hP h1 h2 hl
    obtain ⟨q, hq, hq2⟩ := pl_obj (cy := cy) ho.1 h10
    refine va_put (D := D) C.1.1 C.1.2.1 C.1.2.2.2.2 (F_ws _ h10) (tyF _) (F_ty _ h10) (F_nm _ h10) C.1.2.2.2.1 C.2.1 hP.1 hP.2.1 hP.2.2 q hq2 (F_cl _ h10) j hj (C.1.2.2.2.2 _ hw) (fun _ h => h) hfin (F_ty _ h10 j hj) (by rw [hty]; exact ho.2.1) (by rw [hty]; exact ho.2.2) (by rw [fo_len]; exact hj) hd (fun H1 locs1 p1 d1 s1 => ?_)
    exact k p l e R s m args below meth c Z A D cy C H1 locs1 cells slots la (hP.upd (S' := sI S f _ _) ho.1.1 hq rfl (fun b => by rw [← hf]; exact pF_sI cy S _ ho.1.2 h10 hj ht b) p1 d1 s1) h1 h2 hl
  · exact h.elim
theorem J_pif {i k j f : Nat} {ty : FieldType} (hd : decode (mB M) pc = .ok (.putfield i, 3)) (h10 : k < 10) (hj : j < nF k) (hf : 32 * k + j = f) (ht : fint k j = true) (hty : tyF k j = ty) (hfin : (TF k j).2.2.2 = true) (hini : (mY M).name = "<init>") (hdecl : (TF k j).1 = (mY M).cls) (hw : Cond.fieldLink (mY M).cls i (TF k j).1 (TF k j).2.1 (TF k j).2.2.1 ∈ GW) : J M pc (pc + 3) (tq_pi k f ty) := by
  intro x d Q b ls st S K hK h
  unfold tq_pi at h
  split at h
  · obtain ⟨ho, h⟩ := h
    have k := hK _ _ _ _ h
    intro p l e R s m args below meth c Z A D cy C H locs cells slots la hP h1 h2 hl
    obtain ⟨q, hq, hq2⟩ := pl_obj (cy := cy) ho.1 h10
    refine va_putF (D := D) C.1.1 C.1.2.1 C.1.2.2.2.2 (F_ws _ h10) (tyF _) (F_ty _ h10) (F_nm _ h10) C.1.2.2.2.1 C.2.1 hP.1 hP.2.1 hP.2.2 q hq2 (F_cl _ h10) j hj (C.1.2.2.2.2 _ hw) (fun _ h => h) hfin (C.2.2.2.2.2.1 hini) hdecl (F_ty _ h10 j hj) (by rw [hty]; exact ho.2.1) (by rw [hty]; exact ho.2.2) (by rw [fo_len]; exact hj) hd (fun H1 locs1 p1 d1 s1 => ?_)
    exact k p l e R s m args below meth c Z A D cy C H1 locs1 cells slots la (hP.upd (S' := sI S f _ _) ho.1.1 hq rfl (fun b => by rw [← hf]; exact pF_sI cy S _ ho.1.2 h10 hj ht b) p1 d1 s1) h1 h2 hl
  · exact h.elim
def tq_pr (k f : Nat) : tr := fun _ _ b ls st S K => match st with
  | .ref v :: .ref a :: r => hk S a k ∧ K b ls r (sR S f a (some v))
  | _ => False
theorem J_prf {i k j f : Nat} (hd : decode (mB M) pc = .ok (.putfield i, 3)) (h10 : k < 10) (hj : j < nF k) (hf : 32 * k + j = f) (ht : fint k j = false) (hn : ∀ v : Nat, narrow (tyF k j) (.ref v) = .ref v) (hft : ∀ v : Nat, fits (tyF k j) (.ref v) = true) (hfin : (TF k j).2.2.2 = true) (hini : (mY M).name = "<init>") (hdecl : (TF k j).1 = (mY M).cls) (hw : Cond.fieldLink (mY M).cls i (TF k j).1 (TF k j).2.1 (TF k j).2.2.1 ∈ GW) : J M pc (pc + 3) (tq_pr k f) := by
  intro x d Q b ls st S K hK h
  unfold tq_pr at h
  split at h
  · obtain ⟨ho, h⟩ := h
    have k := hK _ _ _ _ h
    intro p l e R s m args below meth c Z A D cy C H locs cells slots la hP h1 h2 hl
    obtain ⟨q, hq, hq2⟩ := pl_obj (cy := cy) ho h10
    refine va_putF (D := D) C.1.1 C.1.2.1 C.1.2.2.2.2 (F_ws _ h10) (tyF _) (F_ty _ h10) (F_nm _ h10) C.1.2.2.2.1 C.2.1 hP.1 hP.2.1 hP.2.2 q hq2 (F_cl _ h10) j hj (C.1.2.2.2.2 _ hw) (fun _ h => h) hfin (C.2.2.2.2.2.1 hini) hdecl (F_ty _ h10 j hj) (hn _) (hft _) (by rw [fo_len]; exact hj) hd (fun H1 locs1 p1 d1 s1 => ?_)
    exact k p l e R s m args below meth c Z A D cy C H1 locs1 cells slots la (hP.upd (S' := sR S f _ (some _)) ho.1 hq rfl (fun b => by rw [← hf]; exact pF_sR cy S (some _) ho.2 h10 hj ht b) p1 d1 s1) h1 h2 hl
  · exact h.elim
/-! arrays -/
def tq_ia : tr := fun _ _ b ls st S K => match st with
  | .int i :: .ref a :: r => (hk S a 10 ∧ vp_in i (gN S a)) ∧ K b ls (.int (gX S a i.toNatClampNeg) :: r) S
  | _ => False
theorem J_ia (hd : decode (mB M) pc = .ok (.iaload, 1)) : J M pc (pc + 1) tq_ia := by
  intro x d Q b ls st S K hK h
  unfold tq_ia at h
  split at h
  · obtain ⟨ho, h⟩ := h
    have k := hK _ _ _ _ h
    intro p l e R s m args below meth c Z A D cy C H locs cells slots la hP h1 h2 hl
    obtain ⟨q, hq, hq2⟩ := pl_int (cy := cy) ho.1
    exact va_iald C.1.1 C.1.2.1 C.2.1 hP.1 q 0 hq2 rfl ho.2 hd (k p l e R s m args below meth c Z A D cy C H locs cells slots la hP h1 h2 hl)
  · exact h.elim
def tq_ias : tr := fun _ _ b ls st S K => match st with
  | .int v :: .int i :: .ref a :: r => (hk S a 10 ∧ vp_in i (gN S a)) ∧ K b ls r (sX S a (upd (gX S a) i.toNatClampNeg v))
  | _ => False
theorem J_ias (hd : decode (mB M) pc = .ok (.iastore, 1)) : J M pc (pc + 1) tq_ias := by
  intro x d Q b ls st S K hK h
  unfold tq_ias at h
  split at h
  · obtain ⟨ho, h⟩ := h
    have k := hK _ _ _ _ h
    intro p l e R s m args below meth c Z A D cy C H locs cells slots la hP h1 h2 hl
    obtain ⟨q, hq, hq2⟩ := pl_int (cy := cy) ho.1
    refine va_iast C.1.1 C.1.2.1 C.2.1 hP.1 hP.2.1 hP.2.2 q 0 hq2 rfl ho.2 hd (fun H1 locs1 p1 d1 s1 => ?_)
    exact k p l e R s m args below meth c Z A D cy C H1 locs1 cells slots la (hP.upd (S' := sX S _ _) ho.1.1 hq rfl (fun b => pF_sX cy S _ ho.1.2 b) p1 d1 s1) h1 h2 hl
  · exact h.elim
def tq_aa (k : Nat) : tr := fun _ _ b ls st S K => match st with
  | .int i :: .ref a :: r => (hk S a k ∧ vp_in i (gN S a)) ∧ K b ls (va_rf (gY S a i.toNatClampNeg) :: r) S
  | _ => False
theorem J_aa {k : Nat} (hd : decode (mB M) pc = .ok (.aaload, 1)) (h10 : 10 < k) (h15 : k < 15) : J M pc (pc + 1) (tq_aa k) := by
  intro x d Q b ls st S K hK h
  unfold tq_aa at h
  split at h
  · obtain ⟨ho, h⟩ := h
    have k := hK _ _ _ _ h
    intro p l e R s m args below meth c Z A D cy C H locs cells slots la hP h1 h2 hl
    obtain ⟨q, hq, hq2⟩ := pl_ref (cy := cy) ho.1 h10
    exact va_aldq C.1.1 C.1.2.1 C.2.1 hP.1 q _ hq2 (tys_at cy h10 h15) ho.2 hd (k p l e R s m args below meth c Z A D cy C H locs cells slots la hP h1 h2 hl)
  · exact h.elim
def tq_aas (k kv : Nat) : tr := fun _ _ b ls st S K => match st with
  | .ref v :: .int i :: .ref a :: r => (hk S a k ∧ hk S v kv ∧ vp_in i (gN S a)) ∧ K b ls r (sY S a (va_up (gY S a) i.toNatClampNeg (some v)))
  | .null :: .int i :: .ref a :: r => (hk S a k ∧ vp_in i (gN S a)) ∧ K b ls r (sY S a (va_up (gY S a) i.toNatClampNeg none))
  | _ => False
theorem J_aas {k kv : Nat} (hd : decode (mB M) pc = .ok (.aastore, 1)) (h10 : 10 < k) (h15 : k < 15) (hv : kv < 10) (hc : aC k = RF kv) : J M pc (pc + 1) (tq_aas k kv) := by
  intro x d Q b ls st S K hK h
  unfold tq_aas at h
  split at h
  · obtain ⟨ho, h⟩ := h
    have k := hK _ _ _ _ h
    intro p l e R s m args below meth c Z A D cy C H locs cells slots la hP h1 h2 hl
    obtain ⟨q, hq, hq2⟩ := pl_ref (cy := cy) ho.1 h10
    obtain ⟨q', hq', hq2'⟩ := pl_obj (cy := cy) ho.2.1 hv
    refine va_astq (r := (RF kv, TF kv, nF kv)) C.1.1 C.1.2.1 C.2.1 hP.1 hP.2.1 hP.2.2 q _ q' kv hq2 (by rw [tys_at cy h10 h15, hc]) hq2' (F_cl _ hv) ho.2.2 hd (fun H1 locs1 p1 d1 s1 => ?_)
    exact k p l e R s m args below meth c Z A D cy C H1 locs1 cells slots la (hP.upd (S' := sY S _ _) ho.1.1 hq rfl (fun b => pF_sY cy S _ ho.1.2 h10 b) p1 d1 s1) h1 h2 hl
  · obtain ⟨ho, h⟩ := h
    have k := hK _ _ _ _ h
    intro p l e R s m args below meth c Z A D cy C H locs cells slots la hP h1 h2 hl
    obtain ⟨q, hq, hq2⟩ := pl_ref (cy := cy) ho.1 h10
    refine va_astqN C.1.1 C.1.2.1 C.2.1 hP.1 hP.2.1 hP.2.2 q _ hq2 (tys_at cy h10 h15) ho.2 hd (fun H1 locs1 p1 d1 s1 => ?_)
    exact k p l e R s m args below meth c Z A D cy C H1 locs1 cells slots la (hP.upd (S' := sY S _ _) ho.1.1 hq rfl (fun b => pF_sY cy S _ ho.1.2 h10 b) p1 d1 s1) h1 h2 hl
  · exact h.elim
def tq_len : tr := fun _ _ b ls st S K => match st with
  | .ref a :: r => hk S a 10 ∧ K b ls (.int (nI (gN S a)) :: r) S
  | _ => False
theorem J_len (hd : decode (mB M) pc = .ok (.arraylength, 1)) : J M pc (pc + 1) tq_len := by
  intro x d Q b ls st S K hK h
  unfold tq_len at h
  split at h
  · obtain ⟨ho, h⟩ := h
    have k := hK _ _ _ _ h
    intro p l e R s m args below meth c Z A D cy C H locs cells slots la hP h1 h2 hl
    obtain ⟨q, hq, hq2⟩ := pl_int (cy := cy) ho
    exact va_alen C.1.1 C.1.2.1 C.2.1 hP.1 q 0 hq2 (ty := .int) rfl rfl hd (k p l e R s m args below meth c Z A D cy C H locs cells slots la hP h1 h2 hl)
  · exact h.elim
/-! what lies outside the pool -/
def tq_iax : tr := fun x _ b ls st S K => match st with
  | .int i :: .ref a :: r => ∃ (n : Nat) (f : Nat → Value), (FieldType.int, a, n, f) ∈ x.2.2.1 ∧ vp_in i n ∧ K b ls (f i.toNatClampNeg :: r) S
  | _ => False
theorem J_iax (hd : decode (mB M) pc = .ok (.iaload, 1)) : J M pc (pc + 1) tq_iax := by
  intro x d Q b ls st S K hK h
  unfold tq_iax at h
  split at h
  · obtain ⟨n, f, hm, hin, h⟩ := h
    have k := hK _ _ _ _ h
    intro p l e R s m args below meth c Z A D cy C H locs cells slots la hP h1 h2 hl
    exact va_ti C.1.1 C.1.2.1 (C.2.2.1.2.2.1 _ hm) hP.2.2 hin rfl hd (k p l e R s m args below meth c Z A D cy C H locs cells slots la hP h1 h2 hl)
  · exact h.elim
def tq_bax : tr := fun x _ b ls st S K => match st with
  | .int i :: .ref a :: r => ∃ (n : Nat) (f : Nat → Value), (FieldType.byte, a, n, f) ∈ x.2.2.1 ∧ vp_in i n ∧ K b ls (f i.toNatClampNeg :: r) S
  | _ => False
theorem J_bax (hd : decode (mB M) pc = .ok (.baload, 1)) : J M pc (pc + 1) tq_bax := by
  intro x d Q b ls st S K hK h
  unfold tq_bax at h
  split at h
  · obtain ⟨n, f, hm, hin, h⟩ := h
    have k := hK _ _ _ _ h
    intro p l e R s m args below meth c Z A D cy C H locs cells slots la hP h1 h2 hl
    exact va_tb C.1.1 C.1.2.1 (C.2.2.1.2.2.1 _ hm) hP.2.2 hin rfl hd (k p l e R s m args below meth c Z A D cy C H locs cells slots la hP h1 h2 hl)
  · exact h.elim
def tq_lenx : tr := fun x _ b ls st S K => match st with
  | .ref a :: r => ∃ (ty : FieldType) (n : Nat) (f : Nat → Value), (ty, a, n, f) ∈ x.2.2.1 ∧ K b ls (.int (nI n) :: r) S
  | _ => False
theorem J_lenx (hd : decode (mB M) pc = .ok (.arraylength, 1)) : J M pc (pc + 1) tq_lenx := by
  intro x d Q b ls st S K hK h
  unfold tq_lenx at h
  split at h
  · obtain ⟨ty, n, f, hm, h⟩ := h
    have k := hK _ _ _ _ h
    intro p l e R s m args below meth c Z A D cy C H locs cells slots la hP h1 h2 hl
    exact va_tlen C.1.1 C.1.2.1 (C.2.2.1.2.2.1 _ hm) hP.2.2 rfl hd (k p l e R s m args below meth c Z A D cy C H locs cells slots la hP h1 h2 hl)
  · exact h.elim
def tq_gx (o n ds : String) : tr := fun x _ b ls st S K => match st with
  | .ref a :: r => ∃ v : Value, (o, n, ds, v, a) ∈ x.2.1 ∧ K b ls (v :: r) S
  | _ => False
theorem J_gx {i : Nat} {o n ds : String} (hd : decode (mB M) pc = .ok (.getfield i, 3)) (hw : Cond.fieldLink (mY M).cls i o n ds ∈ GW) : J M pc (pc + 3) (tq_gx o n ds) := by
  intro x d Q b ls st S K hK h
  unfold tq_gx at h
  split at h
  · obtain ⟨v, hm, h⟩ := h
    have k := hK _ _ _ _ h
    intro p l e R s m args below meth c Z A D cy C H locs cells slots la hP h1 h2 hl
    exact vk_getf C.1.1 C.1.2.1 (C.2.2.1.2.1 _ hm) hP.2.2 C.1.2.2.2.1 (C.1.2.2.2.2 _ hw) (fun _ h => h) hd (k p l e R s m args below meth c Z A D cy C H locs cells slots la hP h1 h2 hl)
  · exact h.elim
def tq_gs (o n ds : String) : tr := fun x _ b ls st S K => ∃ v : Value, (o, n, ds, v) ∈ x.1 ∧ K b ls (v :: st) S
theorem J_gs {i : Nat} {o n ds : String} (hd : decode (mB M) pc = .ok (.getstatic i, 3)) (hw : Cond.fieldLink (mY M).cls i o n ds ∈ GW) : J M pc (pc + 3) (tq_gs o n ds) := by
  intro x d Q b ls st S K hK h
  obtain ⟨v, hm, h⟩ := h
  have k := hK _ _ _ _ h
  intro p l e R s m args below meth c Z A D cy C H locs cells slots la hP h1 h2 hl
  exact va_gets C.1.1 C.1.2.1 (C.2.2.1.1 _ hm) hP.2.2 C.1.2.2.2.1 (C.1.2.2.2.2 _ hw) (fun _ h => h) hd (k p l e R s m args below meth c Z A D cy C H locs cells slots la hP h1 h2 hl)
theorem J_gsN (hd : decode (mB M) pc = .ok (.getstatic 24, 3)) (ho : (mY M).cls = RX6) : J M pc (pc + 3) (tq_gs RX8 "ABOVE" "[I") := by
  intro x d Q b ls st S K hK h
  obtain ⟨v, hm, h⟩ := h
  have k := hK _ _ _ _ h
  intro p l e R s m args below meth c Z A D cy C H locs cells slots la hP h1 h2 hl
  exact va_getsN C.1.1 C.1.2.1 (C.2.2.1.1 _ hm) hP.2.2 C.1.2.2.2.1 (va_Nw.use rfl (by rw [ho]; exact C.2.2.1.2.2.2.2.2.2.1)) (fun _ h => h) hd (k p l e R s m args below meth c Z A D cy C H locs cells slots la hP h1 h2 hl)
/-! new cells -/
theorem Pool.new {A : Nat → Prop} {D : va_G} {cy : Nat → ClassId} {s : State} {S S' : pS} {H1 : Heap} {locs1 : List Loc} {a : Nat} {e : va_E} (ha : a ∉ gL S) (hL : gL S' = gL S ++ [a]) (hF : ∀ b, va_up (pF cy S) a e b = pF cy S' b)
    (p1 : va_P D vwCl (va_pl (gL S) (pF cy S) ++ [(a, e)]) H1) (d1 : va_D A (va_pl (gL S) (pF cy S) ++ [(a, e)])) (s1 : va_S A s.heap H1 locs1) : Pool A D cy s S' H1 locs1 := by
  rw [va_pl_push ha, va_pl_congr hF, ← hL] at p1 d1
  exact ⟨p1, d1, s1⟩
theorem fresh_of {A : Nat → Prop} {L : List Nat} {f : Nat → va_E} {a : Nat} {e : va_E} (h : va_D A (va_pl L f ++ [(a, e)])) : a ∉ L := by
  intro ha
  obtain ⟨k, hk⟩ := pl_at (f := f) ha
  have hlt := (List.getElem?_eq_some_iff.mp hk).1
  have h2 : (va_pl L f ++ [(a, e)])[(va_pl L f).length]? = some (a, e) := by simp
  have h1 : (va_pl L f ++ [(a, e)])[k]? = some (a, f a) := by rw [List.getElem?_append_left hlt]; exact hk
  have := h.1 k _ _ _ h1 h2 rfl
  omega
def tq_new (k : Nat) : tr := fun _ _ b ls st S K => (1 ≤ b.1 ∧ nF k ≤ b.2) ∧ ∀ a : Nat, a ∉ gL S → K (b.1 - 1, b.2 - nF k) ls (.ref a :: st) (nO S a k)
theorem J_new {i k : Nat} (hd : decode (mB M) pc = .ok (.new i, 3)) (h10 : k < 10) (hw : Cond.classLink (mY M).cls i (RF k) ∈ GW) (hw2 : Cond.instantiable (RF k) (nF k) ∈ GW) (hw3 : Cond.initialized (RF k) ∈ GW) (hz : ∀ j, j < nF k → defaultValue (tyF k j) = vp_V (f0 k) j) : J M pc (pc + 3) (tq_new k) := by
  intro x d Q b ls st S K hK h
  obtain ⟨ho, h⟩ := h
  intro p l e R s m args below meth c Z A D cy C H locs cells slots la hP h1 h2 hl
  have hR := C.2.2.2.2.1
  refine va_new (D := D) (ci := k) (fs := f0 k) C.1.1 C.1.2.1 C.1.2.2.2.2 (F_ws _ h10) (tyF k) (F_ty _ h10) C.1.2.2.2.1 (C.1.2.2.2.2 _ hw) (C.1.2.2.2.2 _ hw2) (C.1.2.2.2.2 _ hw3) C.2.1 hP.1 hP.2.1 hP.2.2 C.2.2.2.1 (F_cl _ h10) hz (by omega) (by omega) hd (fun a H1 p1 d1 s1 => ?_)
  have ha := fresh_of d1
  exact hK _ _ _ _ (h a ha) p l e R s m args below meth c Z A D cy C H1 locs _ _ la (Pool.new (S' := nO S a k) ha rfl (fun b => pF_nO cy S a k h10 b) p1 d1 s1) (show cells + 1 + (b.1 - 1) ≤ _ by omega) (show slots + nF k + (b.2 - nF k) ≤ _ by omega) hl
def tq_na : tr := fun _ _ b ls st S K => match st with
  | .int n :: r => (¬ n < 0 ∧ 1 ≤ b.1 ∧ n.toNatClampNeg ≤ b.2 ∧ n.toNatClampNeg * 4 ≤ 536870912) ∧ ∀ a : Nat, a ∉ gL S → K (b.1 - 1, b.2 - n.toNatClampNeg) ls (.ref a :: r) (nX S a n.toNatClampNeg)
  | _ => False
theorem cy_int {D : va_G} {cy : Nat → ClassId} {s : State} {cA : ClassId} (hK : va_K D vwCl (tys cy) s) (h : va_K D vwCl (tys cy ++ [(cA, .int)]) s) : cA = cy 10 := by
  have h1 := (h.2 5 (cA, .int) rfl).2
  have h2 := (hK.2 0 (cy 10, .int) rfl).2
  exact Option.some.inj (h1.symm.trans h2)
theorem cy_ref {D : va_G} {cy : Nat → ClassId} {s : State} {cA : ClassId} {k : Nat} (h10 : 10 < k) (h15 : k < 15) (hK : va_K D vwCl (tys cy) s) (h : va_K D vwCl (tys cy ++ [(cA, .object (aC k))]) s) : cA = cy k := by
  obtain ⟨_, _, -, -, -, h1⟩ := (h.2 5 (cA, .object (aC k)) rfl).2
  obtain ⟨_, _, -, -, -, h2⟩ := (hK.2 (k - 10) (cy k, .object (aC k)) (tys_at cy h10 h15)).2
  exact Option.some.inj (h1.symm.trans h2)
theorem J_na (hd : decode (mB M) pc = .ok (.newarray .int, 2)) (hw : Cond.arrayClass .int ∈ GW) : J M pc (pc + 2) tq_na := by
  intro x d Q b ls st S K hK h
  unfold tq_na at h
  split at h
  · rename_i n r
    obtain ⟨⟨o1, o2, o3, o4⟩, h⟩ := h
    intro p l e R s m args below meth c Z A D cy C H locs cells slots la hP h1 h2 hl
    have hR := C.2.2.2.2.1
    refine va_newa (atype := .int) (a0 := (n.toNatClampNeg, .inl (fun _ => 0))) C.1.1 C.1.2.1 (C.1.2.2.2.2 _ hw) (ty := .int) rfl C.2.1 hP.1 hP.2.1 hP.2.2 C.2.2.2.1 (fun cA => vp_cell_i _ _ _) o1 rfl o4 (by omega) (by omega) hd (fun a cA H1 k1 p1 d1 s1 => ?_)
    have e := cy_int C.2.1 k1
    subst e
    have ha := fresh_of d1
    exact hK _ _ _ _ (h a ha) p l e R s m args below meth c Z A D cy C H1 locs _ _ la (Pool.new (S' := nX S a n.toNatClampNeg) ha rfl (fun b => pF_nX cy S a _ b) p1 d1 s1) (show cells + 1 + (b.1 - 1) ≤ _ by omega) (show slots + n.toNatClampNeg + (b.2 - n.toNatClampNeg) ≤ _ by omega) hl
  · exact h.elim
def tq_nq (k : Nat) : tr := fun _ _ b ls st S K => match st with
  | .int n :: r => (¬ n < 0 ∧ 1 ≤ b.1 ∧ n.toNatClampNeg ≤ b.2 ∧ n.toNatClampNeg * 4 ≤ 536870912) ∧ ∀ a : Nat, a ∉ gL S → K (b.1 - 1, b.2 - n.toNatClampNeg) ls (.ref a :: r) (nY S a k n.toNatClampNeg)
  | _ => False
theorem J_nq {i k : Nat} (hd : decode (mB M) pc = .ok (.anewarray i, 3)) (h10 : 10 < k) (h15 : k < 15) (hw : Cond.classLink (mY M).cls i (aC k) ∈ GW) : J M pc (pc + 3) (tq_nq k) := by
  intro x d Q b ls st S K hK h
  unfold tq_nq at h
  split at h
  · rename_i n r
    obtain ⟨⟨o1, o2, o3, o4⟩, h⟩ := h
    intro p l e R s m args below meth c Z A D cy C H locs cells slots la hP h1 h2 hl
    have hR := C.2.2.2.2.1
    refine va_newq C.1.1 C.1.2.1 C.1.2.2.2.1 (C.1.2.2.2.2 _ hw) (C.2.2.1.2.2.2.2.2.2.2 k h10 h15) C.2.1 hP.1 hP.2.1 hP.2.2 C.2.2.2.1 o1 rfl o4 (by omega) (by omega) hd (fun a cA H1 k1 p1 d1 s1 => ?_)
    have e := cy_ref h10 h15 C.2.1 k1
    subst e
    have ha := fresh_of d1
    exact hK _ _ _ _ (h a ha) p l e R s m args below meth c Z A D cy C H1 locs _ _ la (Pool.new (S' := nY S a k n.toNatClampNeg) ha rfl (fun b => pF_nY cy S a k _ h10 b) p1 d1 s1) (show cells + 1 + (b.1 - 1) ≤ _ by omega) (show slots + n.toNatClampNeg + (b.2 - n.toNatClampNeg) ≤ _ by omega) hl
  · exact h.elim
def cats (st : List Value) : Nat := (st.map fun v => v.category).sum
/-- Object's own <init> -/
def tq_oi : tr := fun _ d b ls st S K => match st with
  | .ref _ :: r => (1 ≤ d ∧ cats r ≤ 8) ∧ K b ls r S
  | _ => False
theorem J_oi {i : Nat} (hd : decode (mB M) pc = .ok (.invokespecial i, 3)) (hw : Cond.methodLink (mY M).cls i objectInit ∈ GW) (hw2 : Cond.instanceMethod objectInit ∈ GW) (hw3 : Cond.code objectInit ⟨#[0xb1]⟩ 1 none ∈ GW) : J M pc (pc + 3) tq_oi := by
  intro x d Q b ls st S K hK h
  unfold tq_oi at h
  split at h
  · obtain ⟨ho, h⟩ := h
    have k := hK _ _ _ _ h
    intro p l e R s m args below meth c Z A D cy C H locs cells slots la hP h1 h2 hl
    have hR := C.2.2.2.2.1
    refine W.objInit C.1.1 C.1.2.1 C.1.2.2.2.1 (C.1.2.2.2.2 _ hw) (C.1.2.2.2.2 _ hw2) (C.1.2.2.2.2 _ hw3) (g := F0 m pc la _) rfl (hl.1.trans C.1.2.2.1.symm) rfl hd (by omega) ?_ (k p l e R s m args below meth c Z A D cy C H locs cells slots la hP h1 h2 hl)
    have := ho.2
    unfold cats at this
    show 2 * 0 + _ + 12 ≤ _
    omega
  · exact h.elim
/-- System.arraycopy of ints -/
def tq_acp : tr := fun _ d b ls st S K => match st with
  | .int n :: .int dp :: .ref a :: .int sp :: .ref a0 :: r => (1 ≤ d ∧ cats r ≤ 8 ∧ hk S a0 10 ∧ hk S a 10 ∧ ¬ sp < 0 ∧ ¬ dp < 0 ∧ ¬ n < 0 ∧ sp.toNatClampNeg + n.toNatClampNeg ≤ gN S a0 ∧ dp.toNatClampNeg + n.toNatClampNeg ≤ gN S a) ∧ K b ls r (sX S a (va_cpy (gX S a0) (gX S a) sp.toNatClampNeg dp.toNatClampNeg n.toNatClampNeg))
  | _ => False
theorem J_acp {i : Nat} (hd : decode (mB M) pc = .ok (.invokestatic i, 3)) (hw : Cond.methodLink (mY M).cls i arraycopyName ∈ GW) (hw2 : Cond.native arraycopyName ∈ GW) (hw3 : Cond.static arraycopyName ∈ GW) (hw4 : Cond.initialized "java/lang/System" ∈ GW) : J M pc (pc + 3) tq_acp := by
  intro x d Q b ls st S K hK h
  unfold tq_acp at h
  split at h
  · obtain ⟨⟨o1, o2, o3, o4, o5, o6, o7, o8, o9⟩, h⟩ := h
    have k := hK _ _ _ _ h
    intro p l e R s m args below meth c Z A D cy C H locs cells slots la hP h1 h2 hl
    have hR := C.2.2.2.2.1
    obtain ⟨q, hq, hq2⟩ := pl_int (cy := cy) o3
    obtain ⟨q', hq', hq2'⟩ := pl_int (cy := cy) o4
    have hn : nativeFrameWords "java/lang/System" "arraycopy" 5 + 11 ≤ 40 := by decide +kernel
    unfold cats at o2
    refine va_copyi C.1.1 C.1.2.1 (C.1.2.2.1.trans hl.1.symm) C.1.2.2.2.1 (C.1.2.2.2.2 _ hw) (C.1.2.2.2.2 _ hw2) (C.1.2.2.2.2 _ hw3) (C.1.2.2.2.2 _ hw4) C.2.1 hP.1 hP.2.1 hP.2.2 q q' 0 0 hq2 hq2' (ty := .int) rfl rfl rfl o5 o6 o7 o8 o9 (fun _ _ => rfl) (by omega) (by omega) hd (fun H1 locs1 p1 d1 s1 => ?_)
    exact k p l e R s m args below meth c Z A D cy C H1 locs1 cells slots la (hP.upd (S' := sX S _ _) o4.1 hq' rfl (fun b => pF_sX cy S _ o4.2 b) p1 d1 s1) h1 h2 hl
  · exact h.elim
end JH

