/-! batch -/
section BT
variable {n0 : Nat} {σ σ' : Nat → Nat → Nat} {τ τ' : Nat → Nat → Int64} {ad : Nat → Nat → Nat} {mm : gM}
theorem nI_01 {n : Nat} (h : n ≤ 1) : nI n = 0 ∨ nI n = 1 := by
  rcases Nat.eq_zero_or_pos n with z | z
  · exact Or.inl (by rw [z]; rfl)
  · exact Or.inr (by rw [show n = 1 by omega]; rfl)
/-- segment b of field 23 becomes like segment a -/
def uC (σ : Nat → Nat → Nat) (a b : Nat) : Nat → Nat → Nat := fun g j => if g = 23 ∧ b * 8 ≤ j ∧ j < b * 8 + 8 then σ 23 (a * 8 + (j - b * 8)) else σ g j
theorem uC_f {a b g j : Nat} (h : g ≠ 23) : uC σ a b g j = σ g j := if_neg (fun z => h z.1)
theorem uC_g {a b g : Nat} (h : g ≠ 23) : uC σ a b g = σ g := funext (fun _ => uC_f h)
theorem uC_s {a b i : Nat} (h : i < 8) : uC σ a b 23 (b * 8 + i) = σ 23 (a * 8 + i) := by
  unfold uC
  rw [if_pos ⟨rfl, by omega, by omega⟩, Nat.add_sub_cancel_left]
theorem uC_n {a b c i : Nat} (h : i < 8) (hc : c ≠ b) : uC σ a b 23 (c * 8 + i) = σ 23 (c * 8 + i) := by
  unfold uC
  rw [if_neg (by omega)]
theorem Rep.copy23 (h : Rep n0 σ τ ad mm) {a b : Nat} (ha : a < 2 * σ 42 2) (hb : b < 2 * σ 42 2) : ∃ mm' : gM, gcI 0 (some (ad 1023 a)) 0 (some (ad 1023 b)) 0 8 mm = some mm' ∧ mm'.2 = mm.2 ∧ Rep n0 (uC σ a b) τ ad mm' := by
  obtain ⟨f, hf, hfj⟩ := h.arI (k := 1023) (by omega) (by omega) (u1023 ha)
  obtain ⟨g, hg, hgj⟩ := h.arI (k := 1023) (by omega) (by omega) (u1023 hb)
  rw [show rln 1023 = 8 from rfl] at hf hfj hg hgj
  refine ⟨_, gcI_eq (sp := 0) (dp := 0) (n := 8) hf hg (by decide) (by omega) (by omega) (by omega) (by omega), rfl, ?_⟩
  refine h.write (u1023 hb) (fun k' i' h' => ru_of (fun i => uC_f (by omega)) (fun i => uC_f (by omega)) h') ?_ ?_
  · unfold rgd
    rw [if_neg (by omega), if_pos (by omega)]
    refine ⟨_, rfl, fun j' hj' => ?_⟩
    have hj8 : j' < 8 := hj'
    rw [pk_cpy_in (Nat.zero_le j') (by omega), Nat.zero_add, Nat.sub_zero, hfj j' hj8, show rln 1023 = 8 from rfl, show (1023 : Nat) - 1000 = 23 from rfl, uC_s hj8]
  · intro k' i' c hu' hne hg'
    unfold rgd at hg' ⊢
    by_cases a1 : k' < 1000
    · rw [if_pos a1] at hg' ⊢
      exact rgo_of (fun g j h => uC_f (by omega)) (fun _ _ _ => rfl) hg'
    · rw [if_neg a1] at hg' ⊢
      by_cases a2 : k' < 2000
      · rw [if_pos a2] at hg' ⊢
        obtain ⟨q, e, hq⟩ := hg'
        refine ⟨q, e, fun j' hj' => ?_⟩
        rw [hq j' hj']
        by_cases e2 : k' = 1023
        · subst e2
          have hj8 : j' < 8 := hj'
          rw [show rln 1023 = 8 from rfl, show (1023 : Nat) - 1000 = 23 from rfl, uC_n hj8 (hne.resolve_left (fun z => z rfl))]
        · rw [uC_f (by omega)]
      · rw [if_neg a2] at hg' ⊢
        exact hg'
theorem batch_loopA {s : Nat} (hs : s < 12) {K : Option Nat → Int32 → gM → Option (Int32 × gM)} (d : Nat) : ∀ (i f : Nat) (σ : Nat → Nat → Nat) (mm : gM), Rep n0 σ τ ad mm → (∀ k, k < 200 → σ 516 (s * 200 + k) ≤ 1) → i + d = 200 → d < f → ∃ (σ' : Nat → Nat → Nat) (mm' : gM), L_M_batch_28 K f (some (ad 100 0)) (nI s) (nI i) mm = K (some (ad 100 0)) (nI s) mm' ∧ mm'.2 = mm.2 ∧ Rep n0 σ' τ ad mm' ∧ (∀ g, g ≠ 516 → σ' g = σ g) ∧ ∀ j, σ' 516 j = if (12 + s) * 200 + i ≤ j ∧ j < (12 + s) * 200 + 200 then σ 516 (s * 200 + (j - (12 + s) * 200)) else σ 516 j := by
  induction d with
  | zero =>
    intro i f σ mm h hb hi hf
    obtain ⟨f, rfl⟩ : ∃ g, f = g + 1 := ⟨f - 1, by omega⟩
    refine ⟨σ, mm, ?_, rfl, h, fun _ _ => rfl, fun j => ?_⟩
    · rw [L_M_batch_28, if_pos (show (200 : Int32) ≤ nI i from nI_le (a := 200) (by omega) (by omega))]
    · rw [if_neg (by omega)]
  | succ d ih =>
    intro i f σ mm h hb hi hf
    obtain ⟨f, rfl⟩ : ∃ g, f = g + 1 := ⟨f - 1, by omega⟩
    obtain ⟨mm1, a1, b1, r1⟩ := h.w516 (j := (12 + s) * 200 + i) (by omega) (σ 516 (s * 200 + i))
    obtain ⟨σ', mm', c1, c2, c3, c4, c5⟩ := ih (i + 1) f _ mm1 r1 (fun k hk => by rw [uS_i (by omega)]; exact hb k hk) (by omega) (by omega)
    refine ⟨σ', mm', ?_, by rw [c2, b1], c3, fun g hg => by rw [c4 g hg, uS_g hg], fun j => ?_⟩
    · rw [L_M_batch_28, if_neg (show ¬ (200 : Int32) ≤ nI i from nI_ge (b := 200) (by omega) (by omega))]
      simp only [h.xM, gb1_some, ix12, ix200, h.a516 (j := s * 200 + i) (by omega)]
      rw [gIf_pos (nI_01 (hb i (by omega))), a1]
      simp only [gb1_some, gLet_eq, nI_1]
      exact c1
    · rw [c5]
      by_cases e : j = (12 + s) * 200 + i
      · subst e
        rw [if_neg (by omega), if_pos (by omega), uS_s, Nat.add_sub_cancel_left]
      · by_cases w : (12 + s) * 200 + (i + 1) ≤ j ∧ j < (12 + s) * 200 + 200
        · rw [if_pos w, if_pos (by omega), uS_i (by omega)]
        · rw [if_neg w, if_neg (by omega), uS_i e]
theorem batch_loopB {s : Nat} (hs : s < 12) {K : gM → Option (Int32 × gM)} (d : Nat) : ∀ (i f : Nat) (σ : Nat → Nat → Nat) (mm : gM), Rep n0 σ τ ad mm → (∀ k, k < 40 → σ 517 (s * 40 + k) ≤ 1) → i + d = 40 → d < f → ∃ (σ' : Nat → Nat → Nat) (mm' : gM), L_M_batch_70 K f (some (ad 100 0)) (nI s) (nI i) mm = K mm' ∧ mm'.2 = mm.2 ∧ Rep n0 σ' τ ad mm' ∧ (∀ g, g ≠ 517 → σ' g = σ g) ∧ ∀ j, σ' 517 j = if (12 + s) * 40 + i ≤ j ∧ j < (12 + s) * 40 + 40 then σ 517 (s * 40 + (j - (12 + s) * 40)) else σ 517 j := by
  induction d with
  | zero =>
    intro i f σ mm h hb hi hf
    obtain ⟨f, rfl⟩ : ∃ g, f = g + 1 := ⟨f - 1, by omega⟩
    refine ⟨σ, mm, ?_, rfl, h, fun _ _ => rfl, fun j => ?_⟩
    · rw [L_M_batch_70, if_pos (show (40 : Int32) ≤ nI i from nI_le (a := 40) (by omega) (by omega))]
    · rw [if_neg (by omega)]
  | succ d ih =>
    intro i f σ mm h hb hi hf
    obtain ⟨f, rfl⟩ : ∃ g, f = g + 1 := ⟨f - 1, by omega⟩
    obtain ⟨mm1, a1, b1, r1⟩ := h.w517 (j := (12 + s) * 40 + i) (by omega) (σ 517 (s * 40 + i))
    obtain ⟨σ', mm', c1, c2, c3, c4, c5⟩ := ih (i + 1) f _ mm1 r1 (fun k hk => by rw [uS_i (by omega)]; exact hb k hk) (by omega) (by omega)
    refine ⟨σ', mm', ?_, by rw [c2, b1], c3, fun g hg => by rw [c4 g hg, uS_g hg], fun j => ?_⟩
    · rw [L_M_batch_70, if_neg (show ¬ (40 : Int32) ≤ nI i from nI_ge (b := 40) (by omega) (by omega))]
      simp only [h.xM, gb1_some, ix12, ix40, h.a517 (j := s * 40 + i) (by omega)]
      rw [gIf_pos (nI_01 (hb i (by omega))), a1]
      simp only [gb1_some, gLet_eq, nI_1]
      exact c1
    · rw [c5]
      by_cases e : j = (12 + s) * 40 + i
      · subst e
        rw [if_neg (by omega), if_pos (by omega), uS_s, Nat.add_sub_cancel_left]
      · by_cases w : (12 + s) * 40 + (i + 1) ≤ j ∧ j < (12 + s) * 40 + 40
        · rw [if_pos w, if_pos (by omega), uS_i (by omega)]
        · rw [if_neg w, if_neg (by omega), uS_i e]
theorem hx_inj {r s : Nat} (hr : r < 24) (h : hx r = 2 * s + 1) : r = 12 + s := by
  unfold hx at h
  split at h <;> omega
theorem Step.batch (h : Rep n0 σ τ ad mm) (hI : Inv σ τ) (a : Int32) : Step n0 ad mm (F_S_batch (ad 0 0) a) (F_M_batch (ad 100 0) a) := by
  obtain ⟨h0, h1, h2, h3, h4, h5, h6, h7, h8, h9⟩ := id hI
  rcases stl h h0 a with ⟨hS, hM⟩ | ⟨s, hs, rfl⟩
  · refine Step.same (r := 0) h hI ?_ ?_
    · unfold F_S_batch
      simp only [h.xS, gb1_some, gb2_some, hS, if_true]
    · unfold F_M_batch
      simp only [h.xM, gb1_some, gb2_some, hM, if_true]
  obtain ⟨e1, e2, e3, e4, e5, e6, e7, e8, e9, -⟩ := id h0
  obtain ⟨c1, c2, -⟩ := h3 s
  have hS := S_setAt_yes h h0 hs
  by_cases hc : σ 13 s = 0
  · obtain ⟨mm1, a1, b1, r1⟩ := h.p13 (s := s) (by omega) 1
    obtain ⟨mm2, a2, b2, r2⟩ := r1.copy23 (a := 2 * s) (b := 2 * s + 1) (by rw [uS_f (by omega)]; omega) (by rw [uS_f (by omega)]; omega)
    obtain ⟨mm3, a3, b3, r3⟩ := r2.putB (q := 2 * s + 1) (by rw [uC_f (by omega), uS_f (by omega)]; omega) (τ 1 (2 * s))
    have hN : ∀ g, g ≠ 23 → g ≠ 13 → uC (uS σ 13 s 1) (2 * s) (2 * s + 1) g = σ g := fun g g1 g2 => by rw [uC_g g1, uS_g g2]
    have f42 : uS σ 13 s 1 42 2 = σ 42 2 := uS_f (by omega)
    have f42' : uC (uS σ 13 s 1) (2 * s) (2 * s + 1) 42 2 = σ 42 2 := by rw [hN 42 (by omega) (by omega)]
    have hM := M_isSet_yes r3 (t := s) (by rw [hN 502 (by omega) (by omega)]; exact hs) (by rw [hN 502 (by omega) (by omega)]; exact e9)
    obtain ⟨mm4, a4, b4, r4⟩ := r3.w518 (j := s) (by omega) 1
    obtain ⟨f, hf, hfe⟩ := gF_big
    obtain ⟨σ5, mm5, a5, b5, r5, g5, g5'⟩ := batch_loopA (s := s) (by omega) (K := fun p0 p1 mm => L_M_batch_70 (fun mm => some ((1 : Int32), mm)) f p0 p1 (0 : Int32) mm) 200 0 f _ mm4 r4 (fun k hk => by
      rw [uS_f (by omega), hN 516 (by omega) (by omega)]
      exact h7.le1 s k (by omega) hk) (by omega) (by omega)
    have h517 : σ5 517 = σ 517 := by rw [g5 517 (by omega), uS_g (by omega), hN 517 (by omega) (by omega)]
    obtain ⟨σ6, mm6, a6, b6, r6, g6, g6'⟩ := batch_loopB (s := s) (by omega) (K := fun mm => some ((1 : Int32), mm)) 40 0 f _ mm5 r5 (fun k hk => by
      rw [h517]
      exact (h8.2.2.1 s k (by omega) hk).1) (by omega) (by omega)
    rw [h517] at g6'
    rw [uS_g (show (516 : Nat) ≠ 518 by omega), hN 516 (by omega) (by omega)] at g5'
    have hall : ∀ g, g ≠ 23 → g ≠ 13 → g ≠ 518 → g ≠ 516 → g ≠ 517 → σ6 g = σ g := fun g z1 z2 z3 z4 z5 => by rw [g6 g z5, g5 g z4, uS_g z3, hN g z1 z2]
    have s13 : ∀ q, σ6 13 q = if q = s then 1 else σ 13 q := by
      intro q
      rw [g6 13 (by omega), g5 13 (by omega), uS_f (by omega), uC_f (by omega)]
      simp [uS]
    have s518 : ∀ q, σ6 518 q = if q = s then 1 else σ 518 q := by
      intro q
      rw [g6 518 (by omega), g5 518 (by omega)]
      simp only [uS, true_and]
      rw [uC_f (by omega)]
      simp [uS]
    have s23 : σ6 23 = uC σ (2 * s) (2 * s + 1) 23 := by
      rw [g6 23 (by omega), g5 23 (by omega), uS_g (by omega)]
      funext j
      unfold uC
      rw [uS_g (show (23 : Nat) ≠ 13 by omega)]
    have s516 : σ6 516 = σ5 516 := g6 516 (by omega)
    refine Step.mk0 (r := 1) (σ1 := uC (uS σ 13 s 1) (2 * s) (2 * s + 1)) (τ1 := uT τ 1 (2 * s + 1) (τ 1 (2 * s))) (mm1 := mm3) (mm2 := mm6) ?_ (by rw [b3, b2, b1]) r3 ?_ (by rw [b6, b5, b4]) r6 (hI.g378 (fun q => ?_) ?_ ?_ (fun g z1 z2 z3 z4 z5 => hall g z3 z1 z2 z4 z5) (fun g z => uT_g z))
    · unfold F_S_batch F_Holding_becomeLike
      simp only [h.xS, gb1_some, gb2_some, hS, h.xSt (s := s) (by omega), hc, nI_0, reduceCtorEq, if_true, if_false]
      rw [show (1 : Int32) = nI 1 from rfl, a1]
      simp only [gb1_some, r1.xSt (s := s) (by omega), r1.xHd (q := 2 * s + 1) (by omega), r1.xHd (q := 2 * s) (by omega), a2, r2.xHd (q := 2 * s) (by omega), a3, gb2_some]
    · unfold F_M_batch
      rw [hfe]
      simp only [r3.xM, gb1_some, gb2_some, hM, r3.a518 (j := s) (by omega), hN 518 (by omega) (by omega), ← c1, hc, nI_0, if_true, if_neg (show ¬ (1 : Int32) = 0 by decide)]
      rw [show (1 : Int32) = nI 1 from rfl, a4, gb1_some]
      exact a5.trans a6
    · rw [s13, s518, hall 502 (by omega) (by omega) (by omega) (by omega) (by omega)]
      split
      · omega
      · exact h3 q
    · refine ⟨fun u t ht => ?_, fun u t ht hu => ?_, fun r k hr hk => ?_⟩
      · rw [s23, hall 40 (by omega) (by omega) (by omega) (by omega) (by omega)]
        by_cases e : u = 2 * s + 1
        · subst e
          rw [uC_s ht]
          exact h7.1 (2 * s) t ht
        · rw [uC_n ht e]
          exact h7.1 u t ht
      · rw [hall 502 (by omega) (by omega) (by omega) (by omega) (by omega)] at hu
        rw [s23, uC_n ht (by omega)]
        exact h7.2.1 u t ht hu
      · rw [s516, g5', hall 501 (by omega) (by omega) (by omega) (by omega) (by omega), hall 5 (by omega) (by omega) (by omega) (by omega) (by omega), hall 4 (by omega) (by omega) (by omega) (by omega) (by omega), s23]
        by_cases hkN : k < σ 501 0
        · have ht := (h4.1 k hkN).2.1
          by_cases e : r = 12 + s
          · subst e
            rw [if_pos (by omega), Nat.add_sub_cancel_left, hx_hi, uC_s (by omega), h7.2.2 s k (by omega) hk, hx_lo (by omega)]
          · rw [if_neg (by omega), uC_n (by omega) (fun z => e (hx_inj hr z)), h7.2.2 r k hr hk]
        · have hz : ∀ P : Prop, ¬ (k < σ 501 0 ∧ P) := fun P w => hkN w.1
          rw [if_neg (hz _)]
          by_cases e : r = 12 + s
          · subst e
            rw [if_pos (by omega), Nat.add_sub_cancel_left, h7.2.2 s k (by omega) hk, if_neg (hz _)]
          · rw [if_neg (by omega), h7.2.2 r k hr hk, if_neg (hz _)]
    · obtain ⟨w1, w2, w3, w4, w5⟩ := h8
      have q1 : ∀ u, uT τ 1 (2 * s + 1) (τ 1 (2 * s)) 1 u = if u = 2 * s + 1 then τ 1 (2 * s) else τ 1 u := by
        intro u
        simp [uT]
      unfold I8
      rw [hall 503 (by omega) (by omega) (by omega) (by omega) (by omega), hall 502 (by omega) (by omega) (by omega) (by omega) (by omega), hall 14 (by omega) (by omega) (by omega) (by omega) (by omega), hall 15 (by omega) (by omega) (by omega) (by omega) (by omega), hall 519 (by omega) (by omega) (by omega) (by omega) (by omega), hall 520 (by omega) (by omega) (by omega) (by omega) (by omega), hall 521 (by omega) (by omega) (by omega) (by omega) (by omega), hall 24 (by omega) (by omega) (by omega) (by omega) (by omega), hall 501 (by omega) (by omega) (by omega) (by omega) (by omega), hall 4 (by omega) (by omega) (by omega) (by omega) (by omega), hall 6 (by omega) (by omega) (by omega) (by omega) (by omega), hall 522 (by omega) (by omega) (by omega) (by omega) (by omega)]
      refine ⟨fun u e => ?_, fun u hu => ?_, fun r e hr he => ?_, w4, w5⟩
      · rw [q1]
        split
        · exact w1 _ e
        · exact w1 _ e
      · rw [q1, if_neg (by omega)]
        exact w2 u hu
      · rw [g6', q1]
        by_cases z : r = 12 + s
        · subst z
          rw [if_pos (by omega), Nat.add_sub_cancel_left, hx_hi, if_pos rfl]
          have := w3 s e (by omega) he
          rw [hx_lo (by omega)] at this
          exact this
        · rw [if_neg (by omega), if_neg (fun y => z (hx_inj hr y))]
          exact w3 r e hr he
  · have hM := M_isSet_yes h hs e9
    have hc1 : σ 13 s = 1 := by omega
    refine Step.same (r := 0) h hI ?_ ?_
    · unfold F_S_batch
      simp only [h.xS, gb1_some, gb2_some, hS, h.xSt (s := s) (by omega), hc1, reduceCtorEq, if_false, if_neg (show ¬ nI 1 = 0 by decide)]
    · unfold F_M_batch
      simp only [h.xM, gb1_some, gb2_some, hM, h.a518 (j := s) (by omega), ← c1, hc1, if_neg (show ¬ nI 1 = 0 by decide), if_neg (show ¬ (1 : Int32) = 0 by decide)]
end BT
