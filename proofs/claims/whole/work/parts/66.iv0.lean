/-! ===== as the law begins ===== -/
section IVZ
variable {S S8 : pS} {c m : Nat} {lv im tr ct as ad : Nat → Nat} {D : Nat → Prop}
theorem CZ.gx {S' : pS} (h : CZ S c lv im tr ct) (G : GX D S S') (nD : ∀ b, b ∈ gL S → ¬ D b) : CZ S' c lv im tr ct := by
  obtain ⟨h1, h2, h3, h4, h5, h6, h7, h8, h9, h10, h11, h12, h13, h14⟩ := h
  have at_ : ∀ b, b ∈ gL S → gN S' b = gN S b ∧ (∀ f, gR S' f b = gR S f b) ∧ gY S' b = gY S b ∧ (∀ f, gI S' f b = gI S f b) ∧ gX S' b = gX S b := fun b hb => (G.1 b hb).2.2 (nD b hb)
  have kk : ∀ i, cIx i → ct i ∈ gL S := fun i hi => (h2 i hi).1.1
  have wk : ∀ ad, WZ S ad → ∀ i, wIx i → ¬ D (ad i) := fun ad w i hi => nD _ (w.1 i hi).1
  have c0 := (at_ c h1.1).2.1
  have ci := (at_ c h1.1).2.2.2.1
  have r0 := (at_ _ (kk 0 (by decide))).2.1
  have r1 := (at_ _ (kk 1 (by decide))).2.1
  refine ⟨G.hk h1, fun i hi => ⟨G.hk (h2 i hi).1, fun q => by rw [(at_ _ (kk i hi)).1]; exact (h2 i hi).2 q⟩, ?_, fun k hk => ?_, fun k hk => ?_, h6, ⟨h7.1.gx G (wk _ h7.1), h7.2.1.gx G (wk _ h7.2.1), h7.2.2.gx G (wk _ h7.2.2)⟩, h8, h9, ⟨by rw [ci]; exact h10.1, by rw [ci]; exact h10.2.1, by rw [(at_ _ (kk 1 (by decide))).2.2.2.1]; exact h10.2.2⟩, fun j => by rw [(at_ _ (kk 2 (by decide))).2.2.2.2]; exact h11 j, fun j => by rw [(at_ _ (kk 6 (by decide))).2.2.2.2]; exact h12 j, fun k hk => ?_, fun k hk => ?_⟩
  · rw [c0, c0, c0, c0, c0, c0, c0, c0, r0, r0, r1]; exact h3
  · rw [(at_ _ (kk 4 (by decide))).2.2.1, (at_ _ (kk (10 + k) (by unfold cIx; omega))).2.1]; exact h4 k hk
  · rw [(at_ _ (kk 5 (by decide))).2.2.1, (at_ _ (kk (20 + k) (by unfold cIx; omega))).2.1, (at_ _ (kk (20 + k) (by unfold cIx; omega))).2.1, (at_ _ (kk (30 + k) (by unfold cIx; omega))).2.1]; exact h5 k hk
  · have e := (at_ _ (kk (10 + k) (by unfold cIx; omega))).2.2.2.1
    rw [e, e, (at_ _ (kk (14 + k) (by unfold cIx; omega))).2.2.2.2]; exact h13 k hk
  · rw [(at_ _ (kk (20 + k) (by unfold cIx; omega))).2.2.2.1]; exact h14 k hk
theorem WZ.ws (h : WZ S ad) (h5 : ∀ b, b ∈ gL S → gK S b ≠ 5) : WS S ad ∧ WY S ad := by
  obtain ⟨h1, h2, h3, h4, h6, h7, h8, h9⟩ := h
  have no : ∀ b, ¬ hk S b 5 := fun b q => h5 b q.1 q.2
  exact ⟨⟨h1, h2, h3, h4, h6, fun a q => by obtain ⟨t, q1, -⟩ := q; exact absurd q1 (no t), fun t a q _ => absurd q (no t)⟩, fun k _ t e => by rw [h9 k] at e; exact absurd e (by simp)⟩
theorem WZ.live (h : WZ S ad) : LV S ad s0 0 0 0 := by
  obtain ⟨h1, h2, h3, h4, h6, h7, h8, h9⟩ := h
  exact ⟨h7, ⟨fun t ht => absurd ht (Nat.not_lt_zero t), fun k hk => by rw [h8 k hk]; rfl⟩, ⟨⟨rfl, by decide⟩, ⟨rfl, by decide⟩, ⟨rfl, by decide⟩, fun t ht => absurd ht (Nat.not_lt_zero t)⟩, fun i hi => absurd hi (Nat.not_lt_zero i), 0, by decide, rfl⟩
theorem a292 : ∀ k, k < 4 → A0 292 k = -1
  | 0, _ => rfl
  | 1, _ => rfl
  | 2, _ => rfl
  | 3, _ => rfl
  | k + 4, h => absurd h (by omega)
theorem iv_0 (hz : CZ S8 c lv im tr ct) (G : GX D S8 S) (nD : ∀ b, b ∈ gL S8 → ¬ D b) (has : ∀ f, f ∈ AF → as f ∉ gL S8) (hM : MF S m as) (h5 : ∀ b, b ∈ gL S → gK S b ≠ 5) : IV S c m lv im tr ct as A0 (fun _ => 0) 0 0 0 := by
  have out : ∀ b, b ∈ gL S8 → ∀ f, f ∈ AF → b ≠ as f := fun b hb f hf e => has f hf (by rw [← e]; exact hb)
  have h0 := hz
  obtain ⟨h1, h2, h3, h4, h5', h6, h7, h8, h9, h10, h11, h12, h13, h14⟩ := hz.gx G nD
  have wl := h7.1.ws h5
  have wi := h7.2.1.ws h5
  have wt := h7.2.2.ws h5
  have no : ∀ b, ¬ hk S b 5 := fun b q => h5 b q.1 q.2
  refine ⟨⟨h1, h2, h3, h4, h5', h6, ⟨⟨wl.1, wi.1, wt.1⟩, wl.2, wi.2, wt.2⟩, h8, h9, fun t a q _ => absurd q (no t), fun f hf => ⟨(hM.2.1 f hf).2.1, fun i hi => ⟨out _ (h0.2.2.2.2.2.2.1.1.1 i hi).1 f hf, out _ (h0.2.2.2.2.2.2.1.2.1.1 i hi).1 f hf, out _ (h0.2.2.2.2.2.2.1.2.2.1 i hi).1 f hf⟩, fun i hi => out _ (h0.2.1 i hi).1.1 f hf⟩⟩, hM, h7.1.live, ⟨h10.1, Or.inl rfl⟩, ⟨fun k hk => ⟨Or.inl (a292 k hk), 0, by decide, rfl⟩, fun k hk => ⟨(h13 k hk).1.trans (a292 k hk).symm, (h13 k hk).2.1, fun j _ => (h13 k hk).2.2 j⟩⟩, ⟨fun k hk => ⟨Or.inl rfl, 0, by decide, rfl⟩, fun k hk => ⟨h14 k hk, fun q => absurd (show (0 : Int32) = 3 from q) (by decide), fun q => absurd (show (0 : Int32) = 1 from q) (by decide), fun q => absurd (show (0 : Int32) = 2 from q) (by decide)⟩⟩, ⟨⟨0, by decide, rfl⟩, h10.2.1, fun j _ => h12 j⟩, ⟨0, by decide, rfl⟩, h10.2.2, fun j _ => h11 j, fun j _ => ⟨0, by decide, rfl⟩⟩
/-- the model's doings leave the class alone -/
theorem IV.md {P : pS} {A A2 : Nat → Nat → Int32} {F F2 : Nat → Int32} {n nt np : Nat} (h : IV P c m lv im tr ct as A F n nt np) (ha : al A A2 F F2) (B : Nat → Nat → Int32) (H : Nat → Int32) : IV (mP P m as B H) c m lv im tr ct as A2 F2 n nt np := by
  have hf : fr (fun a => a = m ∨ ∃ f, f ∈ AF ∧ a = as f) P (mP P m as B H) := mP_fr
  have hC := h.1
  refine ⟨hC.sp hf.1, ?_, ?_⟩
  · obtain ⟨q1, q2, q3⟩ := h.2.1
    exact ⟨(hk_sp hf.1).mpr q1, fun f hf' => by rw [gR_sp hf.1, gN_sp hf.1]; exact ⟨(q2 f hf').1, (hk_sp hf.1).mpr (q2 f hf').2.1, (q2 f hf').2.2⟩, q3⟩
  · refine CC.al (h.2.2.fr hf ?_ ?_ ?_ ?_ ⟨?_, ?_⟩) ha
    · rintro (e | ⟨f, hf, e⟩)
      · exact hk_ne hC.1 h.2.1.1 (by decide) e
      · exact hk_ne hC.1 (h.2.1.2.1 f hf).2.1 (by decide) e
    · rintro i hi (e | ⟨f, hf, e⟩)
      · exact (hC.w_c h.2.1.1 hi).2.1 e
      · exact ((hC.am hf).2.1 i hi).1 e
    · rintro i hi (e | ⟨f, hf, e⟩)
      · exact (hC.w_c h.2.1.1 hi).2.2.1 e
      · exact ((hC.am hf).2.1 i hi).2.1 e
    · rintro i hi (e | ⟨f, hf, e⟩)
      · exact (cK_ne i).2.1 ((hC.2.1 i hi).1.2.symm.trans (by rw [e]; exact h.2.1.1.2))
      · exact (hC.am hf).2.2 i hi e
    · rintro t q (e | ⟨f, hf, e⟩)
      · exact hk_ne q h.2.1.1 (by decide) e
      · exact hk_ne q (h.2.1.2.1 f hf).2.1 (by decide) e
    · rintro t a q r (e | ⟨f, hf, e⟩)
      · exact hk_ne (hC.tx q (Or.inl r)).1 h.2.1.1 (by decide) e
      · exact (hC.tx q (Or.inl r)).2.2 f hf e
end IVZ
