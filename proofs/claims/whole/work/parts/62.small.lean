/-! endBatch, right, mark -/
section SM
variable {n0 : Nat} {σ σ' : Nat → Nat → Nat} {τ τ' : Nat → Nat → Int64} {ad : Nat → Nat → Nat} {mm : gM}
theorem Inv.g1 (h : Inv σ τ) (n : I1 σ' τ') (e : ∀ f, f ≠ 10 → f ≠ 12 → f ≠ 510 → f ≠ 528 → σ' f = σ f) (d : ∀ f, f ≠ 20 → f ≠ 21 → f ≠ 511 → f ≠ 512 → τ' f = τ f) : Inv σ' τ' := by
  obtain ⟨h0, h1, h2, h3, h4, h5, h6, h7, h8, h9⟩ := h
  exact ⟨h0.of (fun f hf => e f (by omega) (by omega) (by omega) (by omega)), n, h2.of (fun f hf => e f (by omega) (by omega) (by omega) (by omega)), h3.of (fun f hf => e f (by omega) (by omega) (by omega) (by omega)), h4.of (fun f hf => e f (by omega) (by omega) (by omega) (by omega)) (fun f hf => d f (by omega) (by omega) (by omega) (by omega)), h5.of (fun f hf => e f (by omega) (by omega) (by omega) (by omega)), h6.of (fun f hf => e f (by omega) (by omega) (by omega) (by omega)), h7.of (fun f hf => e f (by omega) (by omega) (by omega) (by omega)), h8.of (fun f hf => e f (by omega) (by omega) (by omega) (by omega)) (d 1 (by omega) (by omega) (by omega) (by omega)), h9.of (fun f hf => e f (by omega) (by omega) (by omega) (by omega))⟩
theorem Inv.g2 (h : Inv σ τ) (n : I2 σ') (e : ∀ f, f ≠ 26 → f ≠ 523 → σ' f = σ f) : Inv σ' τ := by
  obtain ⟨h0, h1, h2, h3, h4, h5, h6, h7, h8, h9⟩ := h
  exact ⟨h0.of (fun f hf => e f (by omega) (by omega)), h1.of (fun f hf => e f (by omega) (by omega)) (fun _ _ => rfl), n, h3.of (fun f hf => e f (by omega) (by omega)), h4.of (fun f hf => e f (by omega) (by omega)) (fun _ _ => rfl), h5.of (fun f hf => e f (by omega) (by omega)), h6.of (fun f hf => e f (by omega) (by omega)), h7.of (fun f hf => e f (by omega) (by omega)), h8.of (fun f hf => e f (by omega) (by omega)) rfl, h9.of (fun f hf => e f (by omega) (by omega))⟩
/-- what sets hold, and whether a batch is on -/
theorem Inv.g378 (h : Inv σ τ) (n3 : I3 σ') (n7 : I7 σ') (n8 : I8 σ' τ') (e : ∀ f, f ≠ 13 → f ≠ 518 → f ≠ 23 → f ≠ 516 → f ≠ 517 → σ' f = σ f) (d : ∀ f, f ≠ 1 → τ' f = τ f) : Inv σ' τ' := by
  obtain ⟨h0, h1, h2, h3, h4, h5, h6, h7, h8, h9⟩ := h
  exact ⟨h0.of (fun f hf => e f (by omega) (by omega) (by omega) (by omega) (by omega)), h1.of (fun f hf => e f (by omega) (by omega) (by omega) (by omega) (by omega)) (fun f hf => d f (by omega)), h2.of (fun f hf => e f (by omega) (by omega) (by omega) (by omega) (by omega)), n3, h4.of (fun f hf => e f (by omega) (by omega) (by omega) (by omega) (by omega)) (fun f hf => d f (by omega)), h5.of (fun f hf => e f (by omega) (by omega) (by omega) (by omega) (by omega)), h6.of (fun f hf => e f (by omega) (by omega) (by omega) (by omega) (by omega)), n7, n8, h9.of (fun f hf => e f (by omega) (by omega) (by omega) (by omega) (by omega))⟩
theorem Step.endBatch (h : Rep n0 σ τ ad mm) (hI : Inv σ τ) (a : Int32) : Step n0 ad mm (F_S_endBatch (ad 0 0) a) (F_M_endBatch (ad 100 0) a) := by
  obtain ⟨h0, h1, h2, h3, h4, h5, h6, h7, h8, h9⟩ := id hI
  rcases stl h h0 a with ⟨hS, hM⟩ | ⟨s, hs, rfl⟩
  · refine Step.same (r := 0) h hI ?_ ?_
    · unfold F_S_endBatch
      simp only [h.xS, gb1_some, gb2_some, hS, if_true]
    · unfold F_M_endBatch
      simp only [h.xM, gb1_some, gb2_some, hM, if_true]
  · obtain ⟨e1, e2, e3, e4, e5, e6, e7, e8, e9, -⟩ := id h0
    obtain ⟨c1, c2, -⟩ := h3 s
    have hS := S_setAt_yes h h0 hs
    by_cases hc : σ 13 s = 0
    · have hM := M_isSet_yes h hs e9
      refine Step.same (r := 0) h hI ?_ ?_
      · unfold F_S_endBatch
        simp only [h.xS, gb1_some, gb2_some, hS, h.xSt (s := s) (by omega), hc, nI_0, reduceCtorEq, if_false, if_true]
      · unfold F_M_endBatch
        simp only [h.xM, gb1_some, gb2_some, hM, h.a518 (j := s) (by omega), ← c1, hc, nI_0, if_true, if_neg (show ¬ (1 : Int32) = 0 by decide)]
    · have hc1 : σ 13 s = 1 := by omega
      obtain ⟨mm1, a1, b1, r1⟩ := h.p13 (s := s) (by omega) 0
      have hM := M_isSet_yes r1 (t := s) (by rw [uS_f (by omega)]; exact hs) (by rw [uS_f (by omega)]; exact e9)
      obtain ⟨mm2, a2, b2, r2⟩ := r1.w518 (j := s) (by omega) 0
      refine Step.mk0 (r := 1) ?_ b1 r1 ?_ b2 r2 (hI.g378 (fun s' => ?_) (h7.of (fun f hf => (uS_g (by omega)).trans (uS_g (by omega)))) (h8.of (fun f hf => (uS_g (by omega)).trans (uS_g (by omega))) rfl) (fun f _ _ _ _ _ => (uS_g (by omega)).trans (uS_g (by omega))) (fun _ _ => rfl))
      · unfold F_S_endBatch
        simp only [h.xS, gb1_some, gb2_some, hS, h.xSt (s := s) (by omega), hc1, reduceCtorEq, if_false, if_neg (show ¬ nI 1 = 0 by decide)]
        rw [show (0 : Int32) = nI 0 from rfl, a1, gb1_some]
      · unfold F_M_endBatch
        simp only [r1.xM, gb1_some, gb2_some, hM, r1.a518 (j := s) (by omega), uS_f (show (518 : Nat) ≠ 13 by omega), ← c1, hc1, if_neg (show ¬ nI 1 = 0 by decide), if_neg (show ¬ (1 : Int32) = 0 by decide)]
        rw [show (0 : Int32) = nI 0 from rfl, a2, gb1_some]
      · have f13 : ∀ q, uS (uS σ 13 s 0) 518 s 0 13 q = if q = s then 0 else σ 13 q := fun q => by simp [uS]
        have f518 : ∀ q, uS (uS σ 13 s 0) 518 s 0 518 q = if q = s then 0 else σ 518 q := fun q => by simp [uS]
        rw [f13, f518, uS_g (show (502 : Nat) ≠ 518 by omega), uS_g (show (502 : Nat) ≠ 13 by omega)]
        split
        · omega
        · exact h3 s'
theorem lI (a : Int32) {n : Nat} (h : n < 2 ^ 31) : a.toInt64 < lN n ↔ a < nI n := by
  rw [Int64.lt_iff_toInt_lt, Int32.lt_iff_toInt_lt, Int32.toInt_toInt64, lN_toInt h, nI_toInt h]
theorem lI' (a : Int32) {n : Nat} (h : n < 2 ^ 31) : lN n < a.toInt64 ↔ nI n < a := by
  rw [Int64.lt_iff_toInt_lt, Int32.lt_iff_toInt_lt, Int32.toInt_toInt64, lN_toInt h, nI_toInt h]
theorem M_isIn_eq (a : Int32) {lo hi : Nat} (h1 : lo < 2 ^ 31) (h2 : hi < 2 ^ 31) : F_M_isIn a.toInt64 (lN lo) (lN hi) mm = some (if a < nI lo ∨ nI hi < a then 0 else 1, mm) := by
  unfold F_M_isIn
  by_cases c1 : a < nI lo
  · rw [if_pos ((lI a h1).mpr c1), if_pos (Or.inl c1)]
  · rw [if_neg (fun z => c1 ((lI a h1).mp z))]
    by_cases c2 : nI hi < a
    · rw [if_pos ((lI' a h2).mpr c2), if_pos (Or.inr c2)]
    · rw [if_neg (fun z => c2 ((lI' a h2).mp z)), if_neg (fun z => z.elim c1 c2)]
theorem i_le {a b : Int32} : b ≤ a ↔ ¬ a < b := Int32.not_lt.symm
theorem i_lt1 (a : Int32) {n : Nat} (h : n + 1 < 2 ^ 31) : nI n < a ↔ nI (n + 1) ≤ a := by
  rw [Int32.lt_iff_toInt_lt, Int32.le_iff_toInt_le, nI_toInt (by omega), nI_toInt h]
  omega
theorem S_isPerson_eq (a : Int32) : F_S_isPerson a mm = F_M_isIn a.toInt64 0 9 mm := by
  rw [show (0 : Int64) = lN 0 from rfl, show (9 : Int64) = lN 9 from rfl, M_isIn_eq a (by omega) (by omega), show nI 0 = 0 from rfl]
  unfold F_S_isPerson
  by_cases c1 : a < 0
  · rw [if_pos c1, if_pos (Or.inl c1)]
  · rw [if_neg c1]
    by_cases c2 : (10 : Int32) ≤ a
    · rw [if_pos c2, if_pos (Or.inr ((i_lt1 a (by omega)).mpr c2))]
    · rw [if_neg c2, if_neg (fun z => z.elim c1 (fun w => c2 ((i_lt1 a (by omega)).mp w)))]
theorem S_isKind_eq (a : Int32) : F_S_isKind a mm = F_M_isIn a.toInt64 0 7 mm := by
  rw [show (0 : Int64) = lN 0 from rfl, show (7 : Int64) = lN 7 from rfl, M_isIn_eq a (by omega) (by omega), show nI 0 = 0 from rfl]
  unfold F_S_isKind
  by_cases c1 : a < 0
  · rw [if_pos c1, if_pos (Or.inl c1)]
  · rw [if_neg c1]
    by_cases c2 : (8 : Int32) ≤ a
    · rw [if_pos c2, if_pos (Or.inr ((i_lt1 a (by omega)).mpr c2))]
    · rw [if_neg c2, if_neg (fun z => z.elim c1 (fun w => c2 ((i_lt1 a (by omega)).mp w)))]
theorem S_isNumber_eq (a : Int32) : F_S_isNumber a mm = F_M_isIn a.toInt64 1 9999 mm := by
  rw [show (1 : Int64) = lN 1 from rfl, show (9999 : Int64) = lN 9999 from rfl, M_isIn_eq a (by omega) (by omega), show nI 1 = 1 from rfl, show nI 9999 = 9999 from rfl]
  unfold F_S_isNumber
  by_cases c1 : a < 1
  · rw [if_pos c1, if_pos (Or.inl c1)]
  · rw [if_neg c1]
    by_cases c2 : (9999 : Int32) < a
    · rw [if_pos c2, if_pos (Or.inr c2)]
    · rw [if_neg c2, if_neg (fun z => z.elim c1 c2)]
theorem S_isDay_eq (a : Int32) : F_S_isDay a mm = F_M_isIn a.toInt64 0 100000 mm := by
  rw [show (0 : Int64) = lN 0 from rfl, show (100000 : Int64) = lN 100000 from rfl, M_isIn_eq a (by omega) (by omega), show nI 0 = 0 from rfl, show nI 100000 = 100000 from rfl]
  unfold F_S_isDay
  by_cases c1 : a < 0
  · rw [if_pos c1, if_pos (Or.inl c1)]
  · rw [if_neg c1]
    by_cases c2 : (100000 : Int32) < a
    · rw [if_pos c2, if_pos (Or.inr c2)]
    · rw [if_neg c2, if_neg (fun z => z.elim c1 c2)]
/-- an int between two, or not -/
theorem isInI (mm : gM) (a : Int32) {lo hi : Nat} (h1 : lo < 2 ^ 31) (h2 : hi + 1 < 2 ^ 31) : F_M_isIn a.toInt64 (lN lo) (lN hi) mm = some (0, mm) ∨ ((∀ mm' : gM, F_M_isIn a.toInt64 (lN lo) (lN hi) mm' = some (1, mm')) ∧ ∃ j, lo ≤ j ∧ j ≤ hi ∧ a = nI j) := by
  by_cases c : a < nI lo ∨ nI hi < a
  · left
    rw [M_isIn_eq a h1 (by omega), if_pos c]
  · right
    refine ⟨fun mm' => by rw [M_isIn_eq a h1 (by omega), if_neg c], ?_⟩
    obtain ⟨j, hj, rfl⟩ := nI_of (x := a) (fun z => c (Or.inl (by
      rw [Int32.lt_iff_toInt_lt] at z ⊢
      rw [nI_toInt h1]
      have z' : a.toInt < 0 := z
      omega)))
    refine ⟨j, ?_, ?_, rfl⟩
    · rcases Nat.lt_or_ge j lo with z | z
      · exact absurd (Or.inl (nI_lt z h1)) c
      · exact z
    · rcases Nat.lt_or_ge hi j with z | z
      · exact absurd (Or.inr (nI_lt z hj)) c
      · exact z
theorem Step.right (h : Rep n0 σ τ ad mm) (hI : Inv σ τ) (a b v : Int32) (hv : v = 0 ∨ v = 1) : Step n0 ad mm (F_S_right (ad 0 0) a b v) (F_M_right (ad 100 0) a b v) := by
  obtain ⟨h0, h1, h2, h3, h4, h5, h6, h7, h8, h9⟩ := id hI
  rcases isInI mm a (lo := 0) (hi := 9) (by omega) (by omega) with hp | ⟨hp, p, -, hp1, rfl⟩
  · refine Step.same (r := 0) h hI ?_ ?_
    · unfold F_S_right
      rw [S_isPerson_eq]
      simp only [show (0 : Int64) = lN 0 from rfl, show (9 : Int64) = lN 9 from rfl, hp, gb2_some, if_true]
    · unfold F_M_right
      simp only [show (0 : Int64) = lN 0 from rfl, show (9 : Int64) = lN 9 from rfl, hp, gb2_some, if_true]
  rcases isInI mm b (lo := 0) (hi := 7) (by omega) (by omega) with hk | ⟨hk, k, -, hk1, rfl⟩
  · refine Step.same (r := 0) h hI ?_ ?_
    · unfold F_S_right
      rw [S_isPerson_eq]
      simp only [show (0 : Int64) = lN 0 from rfl, show (9 : Int64) = lN 9 from rfl, show (7 : Int64) = lN 7 from rfl, S_isKind_eq, hp, hk, gb2_some, if_true, if_neg (show ¬ (1 : Int32) = 0 by decide)]
    · unfold F_M_right
      simp only [show (0 : Int64) = lN 0 from rfl, show (9 : Int64) = lN 9 from rfl, show (7 : Int64) = lN 7 from rfl, hp, hk, gb2_some, if_true, if_neg (show ¬ (1 : Int32) = 0 by decide)]
  obtain ⟨w, hw, rfl⟩ : ∃ w : Nat, w ≤ 1 ∧ v = nI w := by
    rcases hv with rfl | rfl
    · exact ⟨0, by omega, rfl⟩
    · exact ⟨1, by omega, rfl⟩
  obtain ⟨mm1, a1, b1, r1⟩ := h.w26 (j := p * 8 + k) (by omega) w
  obtain ⟨mm2, a2, b2, r2⟩ := r1.w523 (j := p * 8 + k) (by omega) w
  refine Step.mk0 (r := 1) ?_ b1 r1 ?_ b2 r2 (hI.g2 (fun i => ?_) (fun f _ _ => (uS_g (by omega)).trans (uS_g (by omega))))
  · unfold F_S_right
    rw [S_isPerson_eq]
    simp only [show (0 : Int64) = lN 0 from rfl, show (9 : Int64) = lN 9 from rfl, show (7 : Int64) = lN 7 from rfl, S_isKind_eq, hp, hk, gb2_some, if_neg (show ¬ (1 : Int32) = 0 by decide), h.xS, gb1_some, ix8, a1, gIf_pos hv]
  · unfold F_M_right
    simp only [show (0 : Int64) = lN 0 from rfl, show (9 : Int64) = lN 9 from rfl, show (7 : Int64) = lN 7 from rfl, hp, hk, gb2_some, if_neg (show ¬ (1 : Int32) = 0 by decide), r1.xM, gb1_some, ix8', a2, gIf_pos hv]
  · by_cases e : i = p * 8 + k
    · subst e
      rw [uS_f (by omega), uS_s, uS_s]
      exact ⟨rfl, hw⟩
    · rw [uS_i e, uS_i e, uS_i e, uS_i e]
      exact h2 i
end SM
