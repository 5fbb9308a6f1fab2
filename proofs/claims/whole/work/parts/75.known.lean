/-! known, seen, conflict -/
section KN
variable {n0 : Nat} {σ σ' σ'' : Nat → Nat → Nat} {τ τ' τ'' : Nat → Nat → Int64} {ad : Nat → Nat → Nat} {mm : gM}
theorem cel (a b : Int32) : ((∀ mm : gM, F_S_cellOf a b mm = some (-1, mm)) ∧ ∀ th ki, th < 16 → ki < 8 → ¬ (nI th = a ∧ nI ki = b)) ∨ ∃ c, c < 128 ∧ (∀ mm : gM, F_S_cellOf a b mm = some (nI c, mm)) ∧ a = nI (c / 8) ∧ b = nI (c % 8) := by
  rcases pk_ix a (n := 16) (by omega) with h | h | ⟨th, hth, rfl⟩
  · left
    refine ⟨fun mm => ?_, fun th ki h1 h2 w => ?_⟩
    · unfold F_S_cellOf
      rw [if_pos h]
    · rw [← w.1] at h
      exact nI_pos (by omega) h
  · left
    refine ⟨fun mm => ?_, fun th ki h1 h2 w => ?_⟩
    · unfold F_S_cellOf
      by_cases h0 : a < 0
      · rw [if_pos h0]
      · rw [if_neg h0, if_pos (show (16 : Int32) ≤ a from h)]
    · rw [← w.1] at h
      exact nI_ge (b := 16) (a := th) h1 (by omega) h
  · rcases pk_ix b (n := 8) (by omega) with h | h | ⟨ki, hki, rfl⟩
    · left
      refine ⟨fun mm => ?_, fun th' ki h1 h2 w => ?_⟩
      · unfold F_S_cellOf F_S_isKind
        rw [if_neg (nI_pos (by omega)), if_neg (show ¬ (16 : Int32) ≤ nI th from nI_ge (b := 16) hth (by omega)), if_pos h, gb2_some, if_pos rfl]
      · rw [← w.2] at h
        exact nI_pos (by omega) h
    · left
      refine ⟨fun mm => ?_, fun th' ki h1 h2 w => ?_⟩
      · unfold F_S_cellOf F_S_isKind
        rw [if_neg (nI_pos (by omega)), if_neg (show ¬ (16 : Int32) ≤ nI th from nI_ge (b := 16) hth (by omega))]
        by_cases h0 : b < 0
        · rw [if_pos h0, gb2_some, if_pos rfl]
        · rw [if_neg h0, if_pos (show (8 : Int32) ≤ b from h), gb2_some, if_pos rfl]
      · rw [← w.2] at h
        exact nI_ge (b := 8) (a := ki) h2 (by omega) h
    · right
      refine ⟨th * 8 + ki, by omega, fun mm => ?_, by rw [show (th * 8 + ki) / 8 = th by omega], by rw [show (th * 8 + ki) % 8 = ki by omega]⟩
      unfold F_S_cellOf F_S_isKind
      rw [if_neg (nI_pos (by omega)), if_neg (show ¬ (16 : Int32) ≤ nI th from nI_ge (b := 16) hth (by omega)), if_neg (nI_pos (by omega)), if_neg (show ¬ (8 : Int32) ≤ nI ki from nI_ge (b := 8) hki (by omega)), gb2_some, if_neg (by decide), ix8]
theorem c_ne1 {c : Nat} (h : c < 128) : ¬ nI c = -1 := by
  intro z
  have : nI c < 0 := by rw [z]; decide
  exact nI_pos (by omega) this
theorem no_of (hI : Inv σ τ) {a b : Int32} (h : ∀ th ki, th < 16 → ki < 8 → ¬ (nI th = a ∧ nI ki = b)) : ∀ k, k < σ 501 0 → ¬ (nI (σ 513 k) = a ∧ nI (σ 514 k) = b) := fun k hk => by
  have := hI.mb hk
  exact h _ _ (by omega) (by omega)
theorem Step.known (h : Rep n0 σ τ ad mm) (hI : Inv σ τ) (a x y D : Int32) : Step n0 ad mm (F_S_known (ad 0 0) a x y D) (F_M_known (ad 100 0) a x y D) := by
  obtain ⟨h0, h1, h2, h3, h4, h5, h6, h7, h8, h9⟩ := id hI
  obtain ⟨e1, e2, e3, e4, e5, e6, e7, e8, e9, -⟩ := id h0
  have hcell : ∃ w, ∀ mm : gM, F_S_cellOf x y mm = some (w, mm) := by
    rcases cel x y with ⟨w, -⟩ | ⟨c, -, w, -⟩
    · exact ⟨_, w⟩
    · exact ⟨_, w⟩
  rcases stl h h0 a with ⟨hS, hM⟩ | ⟨s, hs, rfl⟩
  · obtain ⟨w, hw⟩ := hcell
    refine Step.same (r := -9223372036854775808) h hI ?_ ?_
    · unfold F_S_known
      simp only [h.xS, gb1_some, gb2_some, hS, hw, if_true]
    · unfold F_M_known
      simp only [h.xM, gb1_some, gb2_some, hM, if_true]
  have hS := S_setAt_yes h h0 hs
  rcases cel x y with ⟨hw, hno⟩ | ⟨c, hc, hw, rfl, rfl⟩
  · have hM := M_isSet_yes h hs e9
    obtain ⟨σ2, mm2, a2, b2, r2, F2⟩ := M_valueOf_no h Fr.refl hI (r := s) (by omega) x y D (no_of hI hno)
    refine Step.mk0 (r := -9223372036854775808) (σ1 := σ) (τ1 := τ) (mm1 := mm) ?_ rfl h ?_ b2 r2 (F2.inv hI)
    · unfold F_S_known
      simp only [h.xS, gb1_some, gb2_some, hS, hw, if_true, reduceCtorEq, if_false]
    · unfold F_M_known
      simp only [h.xM, gb1_some, gb2_some, hM, if_neg (show ¬ (1 : Int32) = 0 by decide), a2]
  · obtain ⟨σ1, τ1, mm1, R, a1, b1, r1, F1, c1, v1⟩ := S_valueOn h Fr.refl hI (q := 2 * s) (c := c) (by omega) hc D
    have hM := M_isSet_yes r1 (t := s) (by rw [F1.1 502 (by omega) (by omega) (by omega)]; exact hs) (by rw [F1.1 502 (by omega) (by omega) (by omega)]; exact e9)
    rw [← hx_lo (show s < 12 by omega)] at c1 v1
    obtain ⟨σ2, mm2, R2, a2, b2, r2, F2, v2⟩ := M_valueOf r1 F1 hI (r := s) (by omega) hc D c1
    have := v1.uniq v2
    subst this
    refine Step.mk0 (r := R) ?_ b1 r1 ?_ b2 r2 (F2.inv hI)
    · unfold F_S_known
      simp only [h.xS, gb1_some, gb2_some, hS, hw, reduceCtorEq, if_false, if_neg (c_ne1 hc), h.xSt (s := s) (by omega), a1]
    · unfold F_M_known
      simp only [r1.xM, gb1_some, gb2_some, hM, if_neg (show ¬ (1 : Int32) = 0 by decide), a2]
theorem Step.seen (h : Rep n0 σ τ ad mm) (hI : Inv σ τ) (p a x y : Int32) : Step n0 ad mm (F_S_seen (ad 0 0) p a x y) (F_M_seen (ad 100 0) p a x y) := by
  obtain ⟨h0, h1, h2, h3, h4, h5, h6, h7, h8, h9⟩ := id hI
  obtain ⟨e1, e2, e3, e4, e5, e6, e7, e8, e9, -⟩ := id h0
  have hset : ∃ w, F_S_setAt (ad 0 0) a mm = some (w, mm) := by
    rcases stl h h0 a with ⟨w, -⟩ | ⟨s, hs, rfl⟩
    · exact ⟨_, w⟩
    · exact ⟨_, S_setAt_yes h h0 hs⟩
  have hcell : ∃ w, (∀ mm : gM, F_S_cellOf x y mm = some (w, mm)) := by
    rcases cel x y with ⟨w, -⟩ | ⟨c, -, w, -⟩
    · exact ⟨_, w⟩
    · exact ⟨_, w⟩
  rcases isInI mm p (lo := 0) (hi := 9) (by omega) (by omega) with hp | ⟨hp, p, -, hp1, rfl⟩
  · obtain ⟨w1, hw1⟩ := hset
    obtain ⟨w2, hw2⟩ := hcell
    refine Step.same (r := -9223372036854775808) h hI ?_ ?_
    · unfold F_S_seen
      simp only [h.xS, gb1_some, gb2_some, hw1, hw2, S_isPerson_eq, show (0 : Int64) = lN 0 from rfl, show (9 : Int64) = lN 9 from rfl, hp, if_true]
      by_cases z1 : w1 = none
      · rw [if_pos z1]
      · rw [if_neg z1]
        by_cases z2 : w2 = -1
        · rw [if_pos z2]
        · rw [if_neg z2]
    · unfold F_M_seen
      simp only [show (0 : Int64) = lN 0 from rfl, show (9 : Int64) = lN 9 from rfl, hp, gb2_some, if_true]
  rcases isInI mm y (lo := 0) (hi := 7) (by omega) (by omega) with hk | ⟨hk, ki, -, hk1, rfl⟩
  · obtain ⟨w1, hw1⟩ := hset
    have hw2 : ∀ mm : gM, F_S_cellOf x y mm = some (-1, mm) := by
      rcases cel x y with ⟨w, -⟩ | ⟨c, hc, w, e, rfl⟩
      · exact w
      · exfalso
        rw [M_isIn_eq _ (by omega) (by omega), if_neg (fun z => z.elim (fun q => nI_pos (n := c % 8) (by omega) q) (fun q => nI_nlt (a := 7) (b := c % 8) (by omega) (by omega) q))] at hk
        cases hk
    refine Step.same (r := -9223372036854775808) h hI ?_ ?_
    · unfold F_S_seen
      simp only [h.xS, gb1_some, gb2_some, hw1, hw2, if_true]
      by_cases z1 : w1 = none
      · rw [if_pos z1]
      · rw [if_neg z1]
    · unfold F_M_seen
      simp only [show (0 : Int64) = lN 0 from rfl, show (9 : Int64) = lN 9 from rfl, show (7 : Int64) = lN 7 from rfl, hp, hk, gb2_some, if_true, if_neg (show ¬ (1 : Int32) = 0 by decide)]
  rcases stl h h0 a with ⟨hS, hM⟩ | ⟨s, hs, rfl⟩
  · obtain ⟨w2, hw2⟩ := hcell
    refine Step.same (r := -9223372036854775808) h hI ?_ ?_
    · unfold F_S_seen
      simp only [h.xS, gb1_some, gb2_some, hS, hw2, if_true]
    · unfold F_M_seen
      simp only [show (0 : Int64) = lN 0 from rfl, show (9 : Int64) = lN 9 from rfl, show (7 : Int64) = lN 7 from rfl, hp, hk, gb2_some, h.xM, gb1_some, hM, if_true, if_neg (show ¬ (1 : Int32) = 0 by decide)]
  have hS := S_setAt_yes h h0 hs
  have hM := M_isSet_yes h hs e9
  obtain ⟨c1, c2⟩ := h2 (p * 8 + ki)
  obtain ⟨d1, d2, -⟩ := h3 s
  by_cases hr : σ 26 (p * 8 + ki) = 0
  · obtain ⟨w2, hw2⟩ := hcell
    refine Step.same (r := -9223372036854775808) h hI ?_ ?_
    · unfold F_S_seen
      simp only [h.xS, gb1_some, gb2_some, hS, hw2, S_isPerson_eq, show (0 : Int64) = lN 0 from rfl, show (9 : Int64) = lN 9 from rfl, hp, reduceCtorEq, if_false, if_neg (show ¬ (1 : Int32) = 0 by decide), ix8, h.a26 (j := p * 8 + ki) (by omega), hr, nI_0, if_true]
      by_cases z2 : w2 = -1
      · rw [if_pos z2]
      · rw [if_neg z2]
    · unfold F_M_seen
      simp only [show (0 : Int64) = lN 0 from rfl, show (9 : Int64) = lN 9 from rfl, show (7 : Int64) = lN 7 from rfl, hp, hk, gb2_some, h.xM, gb1_some, hM, if_neg (show ¬ (1 : Int32) = 0 by decide), ix8', h.a523 (j := p * 8 + ki) (by omega), ← c1, hr, nI_0, if_true]
  have hr1 : σ 26 (p * 8 + ki) = 1 := by omega
  have hMs : ∀ (σ1 : Nat → Nat → Nat) (τ1 : Nat → Nat → Int64) (mm1 mm2 : gM) (R : Int64), Rep n0 σ1 τ1 ad mm1 → Fr σ σ τ σ1 τ1 → F_M_valueOf (ad 100 0) (nI (if σ 13 s = 0 then s else 12 + s)) x (nI ki) 100000 mm1 = some (R, mm2) → F_M_seen (ad 100 0) (nI p) (nI s) x (nI ki) mm1 = some (R, mm2) := by
    intro σ1 τ1 mm1 mm2 R r1 F1 hv
    have hM1 := M_isSet_yes r1 (t := s) (by rw [F1.1 502 (by omega) (by omega) (by omega)]; exact hs) (by rw [F1.1 502 (by omega) (by omega) (by omega)]; exact e9)
    unfold F_M_seen
    simp only [show (0 : Int64) = lN 0 from rfl, show (9 : Int64) = lN 9 from rfl, show (7 : Int64) = lN 7 from rfl, hp, hk, gb2_some, r1.xM, gb1_some, hM1, if_neg (show ¬ (1 : Int32) = 0 by decide), ix8', r1.a523 (j := p * 8 + ki) (by omega), r1.a518 (j := s) (by omega), F1.allM, ← c1, ← d1, hr1, if_neg (show ¬ nI 1 = 0 by decide), ix12]
    by_cases hb : σ 13 s = 0
    · rw [if_pos hb] at hv
      rw [hb, if_pos (show nI 0 = 0 from rfl), hv, gb2_some]
    · rw [if_neg hb] at hv
      rw [if_neg (fun z => hb ((nI_z (by omega)).mp z)), hv, gb2_some]
  have hrow : (if σ 13 s = 0 then s else 12 + s) < 24 := by split <;> omega
  have hhx : hx (if σ 13 s = 0 then s else 12 + s) = if σ 13 s = 0 then 2 * s else 2 * s + 1 := by
    by_cases hb : σ 13 s = 0
    · rw [if_pos hb, if_pos hb, hx_lo (by omega)]
    · rw [if_neg hb, if_neg hb, hx_hi]
  rcases cel x (nI ki) with ⟨hw, hno⟩ | ⟨c, hc, hw, rfl, hy⟩
  · obtain ⟨σ2, mm2, a2, b2, r2, F2⟩ := M_valueOf_no h Fr.refl hI (r := if σ 13 s = 0 then s else 12 + s) hrow x (nI ki) 100000 (no_of hI hno)
    refine Step.mk0 (r := -9223372036854775808) (σ1 := σ) (τ1 := τ) (mm1 := mm) ?_ rfl h (hMs σ τ mm mm2 _ h Fr.refl a2) b2 r2 (F2.inv hI)
    unfold F_S_seen
    simp only [h.xS, gb1_some, gb2_some, hS, hw, if_true, reduceCtorEq, if_false]
  · obtain ⟨σ1, τ1, mm1, R, a1, b1, r1, F1, q1, v1⟩ := S_valueOn h Fr.refl hI (q := if σ 13 s = 0 then 2 * s else 2 * s + 1) (c := c) (by split <;> omega) hc 100000
    rw [← hhx] at q1 v1
    obtain ⟨σ2, mm2, R2, a2, b2, r2, F2, v2⟩ := M_valueOf r1 F1 hI (r := if σ 13 s = 0 then s else 12 + s) hrow hc 100000 q1
    have := v1.uniq v2
    subst this
    rw [← hy] at a2
    refine Step.mk0 (r := R) ?_ b1 r1 (hMs σ1 τ1 mm1 mm2 _ r1 F1 a2) b2 r2 (F2.inv hI)
    unfold F_S_seen
    simp only [h.xS, gb1_some, gb2_some, hS, hw, S_isPerson_eq, show (0 : Int64) = lN 0 from rfl, show (9 : Int64) = lN 9 from rfl, hp, reduceCtorEq, if_false, if_neg (c_ne1 hc), if_neg (show ¬ (1 : Int32) = 0 by decide), ix8, h.a26 (j := p * 8 + ki) (by omega), hr1, if_neg (show ¬ nI 1 = 0 by decide), h.xSt (s := s) (by omega)]
    by_cases hb : σ 13 s = 0
    · rw [if_pos hb] at a1
      rw [hb, if_pos (show nI 0 = 0 from rfl), a1, gb2_some]
    · rw [if_neg hb] at a1
      rw [if_neg (fun z => hb ((nI_z (by omega)).mp z)), a1, gb2_some]
end KN
