/-! tellers, sets, cells, ranges -/
section BA
variable {n0 : Nat} {σ : Nat → Nat → Nat} {τ : Nat → Nat → Int64} {ad : Nat → Nat → Nat} {mm : gM}
theorem S_tellerAt_no (h : Rep n0 σ τ ad mm) {a : Int32} (ha : a < 0 ∨ nI (σ 40 0) ≤ a) : F_S_tellerAt (ad 0 0) a mm = some (none, mm) := by
  unfold F_S_tellerAt
  by_cases h0 : a < 0
  · rw [if_pos h0]
  · rw [if_neg h0]
    simp only [h.xS, gb1_some, h.size (l := 0) (by omega), gb2_some, if_pos (ha.resolve_left h0)]
theorem S_tellerAt_yes (h : Rep n0 σ τ ad mm) (hI : I0 σ) {t : Nat} (ht : t < σ 500 0) : F_S_tellerAt (ad 0 0) (nI t) mm = some (some (ad 11 t), mm) := by
  obtain ⟨e1, e2, e3, e4, e5, e6, e7, e8, e9, e10, e11, e12, e13, e14, e15⟩ := hI
  have hg := h.get (l := 0) (j := t) (by omega) (by omega)
  rw [Nat.zero_mul, Nat.zero_add, e13 t ht, show rek 0 = 11 from rfl] at hg
  unfold F_S_tellerAt
  rw [if_neg (nI_pos (by omega))]
  simp only [h.xS, gb1_some, h.size (l := 0) (by omega), gb2_some, hg, h.xTr (t := t) (by omega), if_neg (show ¬ nI (σ 40 0) ≤ nI t from nI_ge (by omega) (by omega))]
theorem S_setAt_no (h : Rep n0 σ τ ad mm) {a : Int32} (ha : a < 0 ∨ nI (σ 40 1) ≤ a) : F_S_setAt (ad 0 0) a mm = some (none, mm) := by
  unfold F_S_setAt
  by_cases h0 : a < 0
  · rw [if_pos h0]
  · rw [if_neg h0]
    simp only [h.xS, gb1_some, h.size (l := 1) (by omega), gb2_some, if_pos (ha.resolve_left h0)]
theorem S_setAt_yes (h : Rep n0 σ τ ad mm) (hI : I0 σ) {s : Nat} (hs : s < σ 502 0) : F_S_setAt (ad 0 0) (nI s) mm = some (some (ad 20 s), mm) := by
  obtain ⟨e1, e2, e3, e4, e5, e6, e7, e8, e9, e10, e11, e12, e13, e14, e15⟩ := hI
  have hg := h.get (l := 1) (j := s) (by omega) (by omega)
  rw [Nat.one_mul, e14 s hs, show rek 1 = 20 from rfl] at hg
  unfold F_S_setAt
  rw [if_neg (nI_pos (by omega))]
  simp only [h.xS, gb1_some, h.size (l := 1) (by omega), gb2_some, hg, h.xSt (s := s) (by omega), if_neg (show ¬ nI (σ 40 1) ≤ nI s from nI_ge (by omega) (by omega))]
theorem M_isTeller_no (h : Rep n0 σ τ ad mm) {a : Int32} (ha : a < 0 ∨ nI (σ 500 0) ≤ a) : F_M_isTeller (ad 100 0) a mm = some (0, mm) := by
  unfold F_M_isTeller
  by_cases h0 : a < 0
  · rw [if_pos h0]
  · rw [if_neg h0]
    simp only [h.xM, gb1_some, if_pos (ha.resolve_left h0)]
theorem M_isTeller_yes (h : Rep n0 σ τ ad mm) {t : Nat} (ht : t < σ 500 0) (hb : σ 500 0 ≤ 8) : F_M_isTeller (ad 100 0) (nI t) mm = some (1, mm) := by
  unfold F_M_isTeller
  rw [if_neg (nI_pos (by omega))]
  simp only [h.xM, gb1_some, if_neg (show ¬ nI (σ 500 0) ≤ nI t from nI_ge ht (by omega))]
theorem M_isSet_no (h : Rep n0 σ τ ad mm) {a : Int32} (ha : a < 0 ∨ nI (σ 502 0) ≤ a) : F_M_isSet (ad 100 0) a mm = some (0, mm) := by
  unfold F_M_isSet
  by_cases h0 : a < 0
  · rw [if_pos h0]
  · rw [if_neg h0]
    simp only [h.xM, gb1_some, if_pos (ha.resolve_left h0)]
theorem M_isSet_yes (h : Rep n0 σ τ ad mm) {t : Nat} (ht : t < σ 502 0) (hb : σ 502 0 ≤ 12) : F_M_isSet (ad 100 0) (nI t) mm = some (1, mm) := by
  unfold F_M_isSet
  rw [if_neg (nI_pos (by omega))]
  simp only [h.xM, gb1_some, if_neg (show ¬ nI (σ 502 0) ≤ nI t from nI_ge ht (by omega))]
theorem tel (h : Rep n0 σ τ ad mm) (hI : I0 σ) (a : Int32) : (F_S_tellerAt (ad 0 0) a mm = some (none, mm) ∧ F_M_isTeller (ad 100 0) a mm = some (0, mm)) ∨ ∃ t, t < σ 500 0 ∧ a = nI t := by
  obtain ⟨e1, e2, e3, e4, e5, e6, -⟩ := hI
  rcases pk_ix a (n := σ 500 0) (by omega) with h1 | h1 | h1
  · exact Or.inl ⟨S_tellerAt_no h (Or.inl h1), M_isTeller_no h (Or.inl h1)⟩
  · exact Or.inl ⟨S_tellerAt_no h (Or.inr (by rw [e5]; exact h1)), M_isTeller_no h (Or.inr h1)⟩
  · exact Or.inr h1
theorem stl (h : Rep n0 σ τ ad mm) (hI : I0 σ) (a : Int32) : (F_S_setAt (ad 0 0) a mm = some (none, mm) ∧ F_M_isSet (ad 100 0) a mm = some (0, mm)) ∨ ∃ t, t < σ 502 0 ∧ a = nI t := by
  obtain ⟨e1, e2, e3, e4, e5, e6, e7, e8, e9, -⟩ := hI
  rcases pk_ix a (n := σ 502 0) (by omega) with h1 | h1 | h1
  · exact Or.inl ⟨S_setAt_no h (Or.inl h1), M_isSet_no h (Or.inl h1)⟩
  · exact Or.inl ⟨S_setAt_no h (Or.inr (by rw [e8]; exact h1)), M_isSet_no h (Or.inr h1)⟩
  · exact Or.inr h1
theorem Step.close (h : Rep n0 σ τ ad mm) (hI : Inv σ τ) (a : Int32) : Step n0 ad mm (F_S_close (ad 0 0) a) (F_M_close (ad 100 0) a) := by
  obtain ⟨h0, h1, h2, h3, h4, h5, h6, h7, h8, h9⟩ := id hI
  rcases tel h h0 a with ⟨hS, hM⟩ | ⟨t, ht, rfl⟩
  · refine Step.same (r := 0) h hI ?_ ?_
    · unfold F_S_close
      simp only [h.xS, gb1_some, gb2_some, hS, if_true]
    · unfold F_M_close
      simp only [h.xM, gb1_some, gb2_some, hM, if_true]
  · obtain ⟨e1, e2, e3, e4, e5, e6, e7, e8, e9, -⟩ := id h0
    obtain ⟨c1, c2, -⟩ := h1.1 t
    have hS := S_tellerAt_yes h h0 ht
    by_cases hc : σ 10 t = 0
    · obtain ⟨mm1, a1, b1, r1⟩ := h.p10 (t := t) (by omega) 1
      have hM := M_isTeller_yes r1 (t := t) (by rw [uS_f (by omega)]; exact ht) (by rw [uS_f (by omega)]; exact e6)
      obtain ⟨mm2, a2, b2, r2⟩ := r1.w510 (j := t) (by omega) 1
      refine Step.mk0 (r := 1) ?_ b1 r1 ?_ b2 r2 ?_
      · unfold F_S_close
        simp only [h.xS, gb1_some, gb2_some, hS, h.xTr (t := t) (by omega), hc, nI_0, reduceCtorEq, if_true, if_false]
        rw [show (1 : Int32) = nI 1 from rfl, a1, gb1_some]
      · unfold F_M_close
        simp only [r1.xM, gb1_some, gb2_some, hM, r1.a510 (j := t) (by omega), uS_f (show (510 : Nat) ≠ 10 by omega), ← c1, hc, nI_0, if_true, if_neg (show ¬ (1 : Int32) = 0 by decide)]
        rw [show (1 : Int32) = nI 1 from rfl, a2, gb1_some]
      · refine ⟨h0.of (fun f hf => ?_), ⟨fun t' => ?_, ?_⟩, h2.of (fun f hf => ?_), h3.of (fun f hf => ?_), h4.of (fun f hf => ?_) (fun _ _ => rfl), h5.of (fun f hf => ?_), h6.of (fun f hf => ?_), h7.of (fun f hf => ?_), h8.of (fun f hf => ?_) rfl, h9.of (fun f hf => ?_)⟩
        all_goals try exact (uS_g (by omega)).trans (uS_g (by omega))
        · have f10 : ∀ q, uS (uS σ 10 t 1) 510 t 1 10 q = if q = t then 1 else σ 10 q := fun q => by simp [uS]
          have f510 : ∀ q, uS (uS σ 10 t 1) 510 t 1 510 q = if q = t then 1 else σ 510 q := fun q => by simp [uS]
          rw [f10, f510, uS_g (show (500 : Nat) ≠ 510 by omega), uS_g (show (500 : Nat) ≠ 10 by omega)]
          split
          · omega
          · exact h1.1 t'
        · rw [uS_g (show (12 : Nat) ≠ 510 by omega), uS_g (show (12 : Nat) ≠ 10 by omega), uS_g (show (528 : Nat) ≠ 510 by omega), uS_g (show (528 : Nat) ≠ 10 by omega), uS_g (show (500 : Nat) ≠ 510 by omega), uS_g (show (500 : Nat) ≠ 10 by omega)]
          exact h1.2
    · have hM := M_isTeller_yes h ht e6
      have hc1 : σ 10 t = 1 := by omega
      refine Step.same (r := 0) h hI ?_ ?_
      · unfold F_S_close
        simp only [h.xS, gb1_some, gb2_some, hS, h.xTr (t := t) (by omega), hc1, reduceCtorEq, if_false, if_neg (show ¬ nI 1 = 0 by decide)]
      · unfold F_M_close
        simp only [h.xM, gb1_some, gb2_some, hM, h.a510 (j := t) (by omega), ← c1, hc1, if_neg (show ¬ nI 1 = 0 by decide), if_neg (show ¬ (1 : Int32) = 0 by decide)]
end BA
