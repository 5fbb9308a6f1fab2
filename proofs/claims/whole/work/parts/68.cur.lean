/-! the current tellings, in the class -/
/-- only the rows of the current tellings differ (and what the reference's sets hold, which is as in X) -/
def Fr (X : Nat → Nat → Nat) (σ : Nat → Nat → Nat) (τ : Nat → Nat → Int64) (σ' : Nat → Nat → Nat) (τ' : Nat → Nat → Int64) : Prop := (∀ g, g ≠ 25 → g ≠ 529 → (g ≠ 516 ∧ g ≠ 517) → σ' g = σ g) ∧ (∀ g, g ≠ 22 → τ' g = τ g) ∧ (σ' 516 = X 516 ∧ σ' 517 = X 517)
/-- telling k is held, of the cell, and from its day on -/
def ofc (σ : Nat → Nat → Nat) (q c : Nat) (D : Int32) (k : Nat) : Prop := k < σ 501 0 ∧ σ 5 k < σ 23 (q * 8 + σ 4 k) ∧ σ 7 k = c ∧ ¬ D < nI (σ 8 k)
/-- n and v are, by teller, number and value of the current ones of those with P -/
def IsCur (σ : Nat → Nat → Nat) (τ : Nat → Nat → Int64) (P : Nat → Prop) (n : Nat → Nat) (v : Nat → Int64) : Prop := ∀ t, t < 8 → (n t = 0 ∧ ∀ k, P k → σ 4 k ≠ t) ∨ (∃ k, P k ∧ σ 4 k = t ∧ n t = σ 6 k ∧ v t = τ 0 k ∧ ∀ j, P j → σ 4 j = t → σ 6 j ≤ σ 6 k)
section CU
variable {n0 : Nat} {X σ σ' σ'' : Nat → Nat → Nat} {τ τ' τ'' : Nat → Nat → Int64} {ad : Nat → Nat → Nat} {mm : gM}
theorem Fr.refl : Fr σ σ τ σ τ := ⟨fun _ _ _ _ => rfl, fun _ _ => rfl, rfl, rfl⟩
theorem Fr.w25 (h : Fr X σ τ σ' τ') {i v : Nat} : Fr X σ τ (uS σ' 25 i v) τ' := ⟨fun g h1 h2 h3 => (uS_g h1).trans (h.1 g h1 h2 h3), h.2.1, (uS_g (by omega)).trans h.2.2.1, (uS_g (by omega)).trans h.2.2.2⟩
theorem Fr.w529 (h : Fr X σ τ σ' τ') {i v : Nat} : Fr X σ τ (uS σ' 529 i v) τ' := ⟨fun g h1 h2 h3 => (uS_g h2).trans (h.1 g h1 h2 h3), h.2.1, (uS_g (by omega)).trans h.2.2.1, (uS_g (by omega)).trans h.2.2.2⟩
theorem Fr.v22 (h : Fr X σ τ σ' τ') {i : Nat} {v : Int64} : Fr X σ τ σ' (uT τ' 22 i v) := ⟨h.1, fun g h1 => (uT_g h1).trans (h.2.1 g h1), h.2.2⟩
/-- the fields, for simp -/
theorem Fr.all (h : Fr X σ τ σ' τ') : σ' 1 = σ 1 ∧ σ' 4 = σ 4 ∧ σ' 5 = σ 5 ∧ σ' 6 = σ 6 ∧ σ' 7 = σ 7 ∧ σ' 8 = σ 8 ∧ σ' 9 = σ 9 ∧ σ' 13 = σ 13 ∧ σ' 14 = σ 14 ∧ σ' 15 = σ 15 ∧ σ' 16 = σ 16 ∧ σ' 23 = σ 23 ∧ σ' 24 = σ 24 ∧ σ' 26 = σ 26 ∧ σ' 40 = σ 40 ∧ σ' 41 = σ 41 ∧ σ' 42 = σ 42 ∧ τ' 0 = τ 0 ∧ τ' 1 = τ 1 :=
  ⟨h.1 1 (by omega) (by omega) (by omega), h.1 4 (by omega) (by omega) (by omega), h.1 5 (by omega) (by omega) (by omega), h.1 6 (by omega) (by omega) (by omega), h.1 7 (by omega) (by omega) (by omega), h.1 8 (by omega) (by omega) (by omega), h.1 9 (by omega) (by omega) (by omega), h.1 13 (by omega) (by omega) (by omega), h.1 14 (by omega) (by omega) (by omega), h.1 15 (by omega) (by omega) (by omega), h.1 16 (by omega) (by omega) (by omega), h.1 23 (by omega) (by omega) (by omega), h.1 24 (by omega) (by omega) (by omega), h.1 26 (by omega) (by omega) (by omega), h.1 40 (by omega) (by omega) (by omega), h.1 41 (by omega) (by omega) (by omega), h.1 42 (by omega) (by omega) (by omega), h.2.1 0 (by omega), h.2.1 1 (by omega)⟩
theorem Fr.allM (h : Fr σ σ τ σ' τ') : σ' 500 = σ 500 ∧ σ' 501 = σ 501 ∧ σ' 502 = σ 502 ∧ σ' 503 = σ 503 ∧ σ' 511 = σ 511 ∧ σ' 512 = σ 512 ∧ σ' 513 = σ 513 ∧ σ' 514 = σ 514 ∧ σ' 515 = σ 515 ∧ σ' 516 = σ 516 ∧ σ' 517 = σ 517 ∧ σ' 518 = σ 518 ∧ σ' 519 = σ 519 ∧ σ' 520 = σ 520 ∧ σ' 521 = σ 521 ∧ σ' 522 = σ 522 ∧ σ' 523 = σ 523 ∧ τ' 510 = τ 510 :=
  ⟨h.1 500 (by omega) (by omega) (by omega), h.1 501 (by omega) (by omega) (by omega), h.1 502 (by omega) (by omega) (by omega), h.1 503 (by omega) (by omega) (by omega), h.1 511 (by omega) (by omega) (by omega), h.1 512 (by omega) (by omega) (by omega), h.1 513 (by omega) (by omega) (by omega), h.1 514 (by omega) (by omega) (by omega), h.1 515 (by omega) (by omega) (by omega), h.2.2.1, h.2.2.2, h.1 518 (by omega) (by omega) (by omega), h.1 519 (by omega) (by omega) (by omega), h.1 520 (by omega) (by omega) (by omega), h.1 521 (by omega) (by omega) (by omega), h.1 522 (by omega) (by omega) (by omega), h.1 523 (by omega) (by omega) (by omega), h.2.1 510 (by omega)⟩
theorem Fr.inv (h : Fr σ σ τ σ' τ') (hI : Inv σ τ) : Inv σ' τ' := hI.cur (fun g h1 h2 => by
    by_cases z : g = 516
    · rw [z]; exact h.2.2.1
    · by_cases y : g = 517
      · rw [y]; exact h.2.2.2
      · exact h.1 g h1 h2 ⟨z, y⟩) h.2.1
theorem fill_loop {K : gM → Option (Unit × gM)} (d : Nat) : ∀ (i f : Nat) (σ : Nat → Nat → Nat) (mm : gM), Rep n0 σ τ ad mm → i + d = 8 → d < f → ∃ (σ' : Nat → Nat → Nat) (mm' : gM), L_Arrays_fill_5 K f (some (ad 1025 0)) 0 (nI i) (nI 8) mm = K mm' ∧ mm'.2 = mm.2 ∧ Rep n0 σ' τ ad mm' ∧ (∀ g, g ≠ 25 → σ' g = σ g) ∧ ∀ j, σ' 25 j = if i ≤ j ∧ j < 8 then 0 else σ 25 j := by
  induction d with
  | zero =>
    intro i f σ mm h hi hf
    obtain ⟨f, rfl⟩ : ∃ g, f = g + 1 := ⟨f - 1, by omega⟩
    refine ⟨σ, mm, ?_, rfl, h, fun _ _ => rfl, fun j => ?_⟩
    · rw [L_Arrays_fill_5, if_pos (nI_le (by omega) (by omega))]
    · rw [if_neg (by omega)]
  | succ d ih =>
    intro i f σ mm h hi hf
    obtain ⟨f, rfl⟩ : ∃ g, f = g + 1 := ⟨f - 1, by omega⟩
    obtain ⟨mm1, a1, b1, r1⟩ := h.w25 (j := i) (by omega) 0
    obtain ⟨σ', mm', c1, c2, c3, c4, c5⟩ := ih (i + 1) f _ mm1 r1 (by omega) (by omega)
    refine ⟨σ', mm', ?_, by rw [c2, b1], c3, fun g hg => by rw [c4 g hg, uS_g hg], fun j => ?_⟩
    · rw [L_Arrays_fill_5, if_neg (nI_ge (by omega) (by omega))]
      rw [show nI 0 = (0 : Int32) from rfl] at a1
      simp only [a1, gb1_some, gLet_eq, nI_1]
      exact c1
    · rw [c5]
      by_cases e : j = i
      · subst e
        rw [if_neg (by omega), if_pos (by omega), uS_s]
      · by_cases w : i + 1 ≤ j ∧ j < 8
        · rw [if_pos w, if_pos (by omega)]
        · rw [if_neg w, if_neg (by omega), uS_i e]
theorem S_clear (h : Rep n0 σ τ ad mm) : ∃ (σ' : Nat → Nat → Nat) (mm' : gM), F_Current_clear (ad 17 0) mm = some ((), mm') ∧ mm'.2 = mm.2 ∧ Rep n0 σ' τ ad mm' ∧ (∀ g, g ≠ 25 → σ' g = σ g) ∧ ∀ j, j < 8 → σ' 25 j = 0 := by
  obtain ⟨f, hf, hfe⟩ := gF_big
  obtain ⟨σ', mm', c1, c2, c3, c4, c5⟩ := fill_loop (K := fun mm => some ((), mm)) 8 0 f σ mm h (by omega) (by omega)
  obtain ⟨g, hg, -⟩ := h.arI (k := 1025) (i := 0) (by omega) (by omega) u1025
  refine ⟨σ', mm', ?_, c2, c3, c4, fun j hj => by rw [c5, if_pos (by omega)]⟩
  unfold F_Current_clear F_Arrays_fill
  rw [hfe]
  simp only [h.xS, gb1_some, glen_eq hg, show rln 1025 = 8 from rfl]
  rw [show nI 0 = (0 : Int32) from rfl] at c1
  rw [c1, gb2_some]
/-- one telling is offered -/
theorem S_offer (h : Rep n0 σ' τ' ad mm) (hF : Fr X σ τ σ' τ') (hI : Inv σ τ) {k : Nat} (hk : k < σ 501 0) {P : Nat → Prop} (hc : IsCur σ τ P (σ' 25) (τ' 22)) (hP : ∀ j, P j → j < σ 501 0) : ∃ (σ'' : Nat → Nat → Nat) (τ'' : Nat → Nat → Int64) (mm' : gM), F_Current_offer (ad 17 0) (some (ad 10 k)) mm = some ((), mm') ∧ mm'.2 = mm.2 ∧ Rep n0 σ'' τ'' ad mm' ∧ Fr X σ τ σ'' τ'' ∧ IsCur σ τ (fun j => P j ∨ j = k) (σ'' 25) (τ'' 22) := by
  obtain ⟨h0, h1, h2, h3, h4, h5, h6, h7, h8, h9⟩ := id hI
  obtain ⟨e1, e2, e3, e4, e5, e6, -⟩ := id h0
  have ht := (h4.1 k hk).2.1
  have hn := (h4.1 k hk).2.2.2.2.1
  have hk' : k < σ' 42 0 := by rw [hF.1 42 (by omega) (by omega) (by omega)]; omega
  have hb : σ' 25 (σ 4 k) < 10000 := by
    rcases hc (σ 4 k) (by omega) with ⟨z, -⟩ | ⟨j, z1, z2, z3, -⟩
    · omega
    · have := (h4.1 j (hP j z1)).2.2.2.2.1
      omega
  by_cases hle : σ 6 k ≤ σ' 25 (σ 4 k)
  · refine ⟨σ', τ', mm, ?_, rfl, h, hF, ?_⟩
    · unfold F_Current_offer
      simp only [h.xS, h.xTl hk', hF.all, gb1_some, h.a25 (j := σ 4 k) (by omega), if_pos (nI_le hle (by omega))]
    · intro t ht8
      rcases hc t ht8 with ⟨z1, z2⟩ | ⟨j, z1, z2, z3, z4, z5⟩
      · left
        refine ⟨z1, fun j hj => ?_⟩
        rcases hj with w | w
        · exact z2 j w
        · subst w
          intro q
          subst q
          have := (h4.1 j hk).2.2.2.1
          omega
      · right
        refine ⟨j, Or.inl z1, z2, z3, z4, fun i hi => ?_⟩
        rcases hi with w | w
        · exact z5 i w
        · subst w
          intro q
          subst q
          omega
  · obtain ⟨mm1, a1, b1, r1⟩ := h.w25 (j := σ 4 k) (by omega) (σ 6 k)
    obtain ⟨mm2, a2, b2, r2⟩ := r1.v22 (j := σ 4 k) (by omega) (τ 0 k)
    have hk1 : k < uS σ' 25 (σ 4 k) (σ 6 k) 42 0 := by rw [uS_f (by omega)]; exact hk'
    refine ⟨_, _, mm2, ?_, by rw [b2, b1], r2, hF.w25.v22, ?_⟩
    · unfold F_Current_offer
      simp only [h.xS, h.xTl hk', hF.all, gb1_some, h.a25 (j := σ 4 k) (by omega), if_neg (nI_ge (show σ' 25 (σ 4 k) < σ 6 k by omega) (by omega)), a1, r1.xS, r1.xTl hk1, hF.w25.all, a2]
    · intro t ht8
      by_cases e : t = σ 4 k
      · subst e
        right
        refine ⟨k, Or.inr rfl, rfl, uS_s _ _ _ _, uT_s _ _ _ _, fun i hi q => ?_⟩
        rcases hi with w | w
        · rcases hc (σ 4 k) ht8 with ⟨z1, z2⟩ | ⟨j, z1, z2, z3, z4, z5⟩
          · exact absurd q (z2 i w)
          · have := z5 i w q
            omega
        · subst w
          omega
      · rcases hc t ht8 with ⟨z1, z2⟩ | ⟨j, z1, z2, z3, z4, z5⟩
        · left
          refine ⟨by rw [uS_i e]; exact z1, fun j hj => ?_⟩
          rcases hj with w | w
          · exact z2 j w
          · subst w
            exact fun q => e q.symm
        · right
          refine ⟨j, Or.inl z1, z2, by rw [uS_i e]; exact z3, by rw [uT_i e]; exact z4, fun i hi q => ?_⟩
          rcases hi with w | w
          · exact z5 i w q
          · subst w
            exact absurd q.symm e
theorem IsCur.iff {P Q : Nat → Prop} {n : Nat → Nat} {v : Nat → Int64} (h : IsCur σ τ P n v) (e : ∀ k, P k ↔ Q k) : IsCur σ τ Q n v := by
  have : P = Q := funext (fun k => propext (e k))
  subst this
  exact h
theorem cur_loop (hI : Inv σ τ) {q c : Nat} (hq : q < 2 * σ 502 0) (D : Int32) {K : gM → Option (Unit × gM)} (m : Nat) : ∀ (x f : Nat) (σ' : Nat → Nat → Nat) (τ' : Nat → Nat → Int64) (mm : gM), x ≤ m → m < f → Rep n0 σ' τ' ad mm → Fr X σ τ σ' τ' → x ≤ σ 501 0 → (0 < x → σ 7 (x - 1) = c) → IsCur σ τ (fun k => ofc σ q c D k ∧ x ≤ k) (σ' 25) (τ' 22) →
    ∃ (σ'' : Nat → Nat → Nat) (τ'' : Nat → Nat → Int64) (mm' : gM), L_S_findCurrent_27 K f (some (ad 0 0)) (some (ad 21 q)) D (rop x (ad 10)) mm = K mm' ∧ mm'.2 = mm.2 ∧ Rep n0 σ'' τ'' ad mm' ∧ Fr X σ τ σ'' τ'' ∧ IsCur σ τ (ofc σ q c D) (σ'' 25) (τ'' 22) := by
  obtain ⟨h0, h1, h2, h3, h4, h5, h6, h7, h8, h9⟩ := id hI
  obtain ⟨e1, e2, e3, e4, e5, e6, e7, -⟩ := id h0
  induction m with
  | zero =>
    intro x f σ' τ' mm hx hf h hF hxN hxc hc
    obtain ⟨f, rfl⟩ : ∃ g, f = g + 1 := ⟨f - 1, by omega⟩
    have : x = 0 := by omega
    subst this
    refine ⟨σ', τ', mm, ?_, rfl, h, hF, hc.iff (fun k => ⟨fun z => z.1, fun z => ⟨z, by omega⟩⟩)⟩
    rw [L_S_findCurrent_27, show rop 0 (ad 10) = none from rfl, if_pos rfl]
  | succ m ih =>
    intro x f σ' τ' mm hx hf h hF hxN hxc hc
    obtain ⟨f, rfl⟩ : ∃ g, f = g + 1 := ⟨f - 1, by omega⟩
    rcases Nat.eq_zero_or_pos x with z0 | z0
    · subst z0
      refine ⟨σ', τ', mm, ?_, rfl, h, hF, hc.iff (fun k => ⟨fun z => z.1, fun z => ⟨z, by omega⟩⟩)⟩
      rw [L_S_findCurrent_27, show rop 0 (ad 10) = none from rfl, if_pos rfl]
    · obtain ⟨k, rfl⟩ : ∃ k, x = k + 1 := ⟨x - 1, by omega⟩
      have hk : k < σ 501 0 := by omega
      have hck : σ 7 k = c := hxc z0
      obtain ⟨l1, l2, l3⟩ := h6.2 k hk
      have hk' : k < σ' 42 0 := by rw [hF.1 42 (by omega) (by omega) (by omega)]; omega
      have hq' : q < 2 * σ' 42 2 := by rw [hF.1 42 (by omega) (by omega) (by omega)]; omega
      have ht := (h4.1 k hk).2.1
      have hcnt := h7.cnt h5 h0 q (σ 4 k) (by omega)
      have hord := h5.1 k hk
      have hord2 := h5.2.2.2.1 (σ 4 k)
      rw [L_S_findCurrent_27, show rop (k + 1) (ad 10) = some (ad 10 k) from rfl, if_neg (by simp)]
      have nxt : ∀ (P : Prop), (ofc σ q c D k → P) → (¬ ofc σ q c D k → P) → P := fun P a b => (Classical.em _).elim a b
      by_cases hD : D < nI (σ 8 k)
      · simp only [h.xTl hk', hF.all, gb1_some, if_pos hD]
        refine ih (σ 9 k) f σ' τ' mm (by omega) (by omega) h hF (by omega) (fun w => by rw [l3 w, hck]) (hc.iff (fun j => ⟨fun z => ⟨z.1, by omega⟩, fun z => ⟨z.1, ?_⟩⟩))
        rcases Nat.lt_or_ge k j with w | w
        · omega
        · rcases Nat.lt_or_ge j k with y | y
          · exact absurd (by rw [z.1.2.2.1, hck]) (l2 j z.2 y)
          · have : j = k := by omega
            subst this
            exact absurd hD z.1.2.2.2
      · unfold F_Holding_has
        by_cases hH : σ 23 (q * 8 + σ 4 k) ≤ σ 5 k
        · simp only [h.xTl hk', h.xHd hq', hF.all, gb1_some, if_neg hD, h.a23 hq' (j := σ 4 k) (by omega), if_pos (nI_le hH (by omega)), gb2_some, if_true]
          refine ih (σ 9 k) f σ' τ' mm (by omega) (by omega) h hF (by omega) (fun w => by rw [l3 w, hck]) (hc.iff (fun j => ⟨fun z => ⟨z.1, by omega⟩, fun z => ⟨z.1, ?_⟩⟩))
          rcases Nat.lt_or_ge k j with w | w
          · omega
          · rcases Nat.lt_or_ge j k with y | y
            · exact absurd (by rw [z.1.2.2.1, hck]) (l2 j z.2 y)
            · have : j = k := by omega
              subst this
              have := z.1.2.1
              omega
        · obtain ⟨σ2, τ2, mm2, a2, b2, r2, F2, c2⟩ := S_offer h hF hI hk hc (fun j hj => hj.1.1)
          have hk2 : k < σ2 42 0 := by rw [F2.1 42 (by omega) (by omega) (by omega)]; omega
          simp only [h.xTl hk', h.xHd hq', h.xS, hF.all, gb1_some, if_neg hD, h.a23 hq' (j := σ 4 k) (by omega), if_neg (nI_ge (show σ 5 k < σ 23 (q * 8 + σ 4 k) by omega) (by omega)), gb2_some, if_neg (show ¬ (1 : Int32) = 0 by decide), a2, r2.xTl hk2, F2.all]
          have ci : ∀ j, ((ofc σ q c D j ∧ k + 1 ≤ j) ∨ j = k) ↔ (ofc σ q c D j ∧ σ 9 k ≤ j) := by
            intro j
            constructor
            · intro z
              rcases z with z | z
              · exact ⟨z.1, by omega⟩
              · subst z
                exact ⟨⟨hk, by omega, hck, hD⟩, by omega⟩
            · intro z
              rcases Nat.lt_or_ge k j with w | w
              · exact Or.inl ⟨z.1, by omega⟩
              · rcases Nat.lt_or_ge j k with y | y
                · exact absurd (by rw [z.1.2.2.1, hck]) (l2 j z.2 y)
                · exact Or.inr (by omega)
          obtain ⟨σ3, τ3, mm3, a3, b3, r3, F3, c3⟩ := ih (σ 9 k) f σ2 τ2 mm2 (by omega) (by omega) r2 F2 (by omega) (fun w => by rw [l3 w, hck]) (c2.iff ci)
          exact ⟨σ3, τ3, mm3, a3, by rw [b3, b2], r3, F3, c3⟩
theorem S_findCurrent (h : Rep n0 σ' τ' ad mm) (hF : Fr X σ τ σ' τ') (hI : Inv σ τ) {q c : Nat} (hq : q < 2 * σ 502 0) (hc : c < 128) (D : Int32) : ∃ (σ'' : Nat → Nat → Nat) (τ'' : Nat → Nat → Int64) (mm' : gM), F_S_findCurrent (ad 0 0) (some (ad 21 q)) (nI c) D mm = some ((), mm') ∧ mm'.2 = mm.2 ∧ Rep n0 σ'' τ'' ad mm' ∧ Fr X σ τ σ'' τ'' ∧ IsCur σ τ (ofc σ q c D) (σ'' 25) (τ'' 22) := by
  obtain ⟨h0, h1, h2, h3, h4, h5, h6, h7, h8, h9⟩ := id hI
  obtain ⟨σ1, mm1, a1, b1, r1, g1, g1'⟩ := S_clear h
  have F1 : Fr X σ τ σ1 τ' := ⟨fun g z1 z2 z3 => (g1 g z1).trans (hF.1 g z1 z2 z3), hF.2.1, (g1 516 (by omega)).trans hF.2.2.1, (g1 517 (by omega)).trans hF.2.2.2⟩
  obtain ⟨f, hf, hfe⟩ := gF_big
  obtain ⟨l1, l2, l3⟩ := h6.1 c
  have e3 := h0.2.2.1
  obtain ⟨σ2, τ2, mm2, a2, b2, r2, F2, c2⟩ := cur_loop (n0 := n0) (ad := ad) hI (q := q) (c := c) hq D (K := fun mm => some ((), mm)) (σ 16 c) (σ 16 c) f σ1 τ' mm1 (by omega) (by omega) r1 F1 l1 l3 (fun t ht => Or.inl ⟨g1' t ht, fun k hk => absurd hk.1.2.2.1 (l2 k hk.2 hk.1.1)⟩)
  refine ⟨σ2, τ2, mm2, ?_, by rw [b2, b1], r2, F2, c2⟩
  unfold F_S_findCurrent
  obtain ⟨g, hg, hgj⟩ := r1.oNew
  have hr := gaR_eq (t := 3) (j := c) hg hc (by omega) (by omega)
  rw [hgj c hc, F1.1 16 (by omega) (by omega) (by omega)] at hr
  rw [hfe]
  simp only [h.xS, gb1_some, a1, gb2_some, r1.xS, hr, if_neg (show ¬ nI c < 0 from nI_pos (by omega)), if_pos (show nI c < (128 : Int32) from nI_lt (b := 128) hc (by omega))]
  exact a2
end CU
