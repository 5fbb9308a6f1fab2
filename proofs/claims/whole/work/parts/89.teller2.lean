section TF
variable {n0 : Nat} {σ σ' : Nat → Nat → Nat} {τ τ' : Nat → Nat → Int64} {ad ad' : Nat → Nat → Nat} {mm mm' : gM}
theorem Inv.teller (hI : Inv σ τ) (hT : σ 500 0 < 8) (f : ∀ g, g ≠ 42 → g ≠ 20 → g ≠ 21 → g ≠ 22 → g ≠ 40 → g ≠ 41 → g ≠ 500 → σ' g = σ g) (f42 : ∀ i, σ' 42 i = if i = 1 then σ 500 0 + 1 else σ 42 i) (f20 : ∀ g t j, (g = 20 ∨ g = 21 ∨ g = 22) → t ≠ σ 500 0 → j < 6 → σ' g (t * 6 + j) = σ g (t * 6 + j)) (f40 : ∀ i, σ' 40 i = if i = 0 then σ 500 0 + 1 else σ 40 i) (f41 : ∀ i, σ' 41 i = if i = σ 500 0 then σ 500 0 else σ 41 i) (f500 : σ' 500 0 = σ 500 0 + 1) : Inv σ' τ := by
  obtain ⟨h0, h1, h2, h3, h4, h5, h6, h7, h8, h9⟩ := hI
  have f501 := f 501 (by omega) (by omega) (by omega) (by omega) (by omega) (by omega) (by omega)
  have f502 := f 502 (by omega) (by omega) (by omega) (by omega) (by omega) (by omega) (by omega)
  have f503 := f 503 (by omega) (by omega) (by omega) (by omega) (by omega) (by omega) (by omega)
  have f4 := f 4 (by omega) (by omega) (by omega) (by omega) (by omega) (by omega) (by omega)
  have f5 := f 5 (by omega) (by omega) (by omega) (by omega) (by omega) (by omega) (by omega)
  have f6 := f 6 (by omega) (by omega) (by omega) (by omega) (by omega) (by omega) (by omega)
  have t40 : ∀ t, σ' 40 (3 + t) = σ 40 (3 + t) := fun t => by rw [f40, if_neg (by omega)]
  have t41 : ∀ t j, j < 1000 → σ' 41 ((3 + t) * 1000 + j) = σ 41 ((3 + t) * 1000 + j) := fun t j hj => by rw [f41, if_neg (by omega)]
  refine ⟨?_, ?_, h2.of (fun g hg => f g (by omega) (by omega) (by omega) (by omega) (by omega) (by omega) (by omega)), h3.of (fun g hg => f g (by omega) (by omega) (by omega) (by omega) (by omega) (by omega) (by omega)), ?_, ?_, h6.of (fun g hg => f g (by omega) (by omega) (by omega) (by omega) (by omega) (by omega) (by omega)), ?_, h8.of (fun g hg => f g (by omega) (by omega) (by omega) (by omega) (by omega) (by omega) (by omega)) rfl, ?_⟩
  · obtain ⟨e1, e2, e3, e4, e5, e6, e7, e8, e9, e10, e11, e12, e13, e14, e15⟩ := h0
    unfold I0
    rw [f 1 (by omega) (by omega) (by omega) (by omega) (by omega) (by omega) (by omega), f501, f502, f503, f500, f42, f42, f42, f42, f40, f40, f40]
    simp only [if_true, if_neg (show ¬ (0 : Nat) = 1 by omega), if_neg (show ¬ (2 : Nat) = 1 by omega), if_neg (show ¬ (3 : Nat) = 1 by omega), if_neg (show ¬ (1 : Nat) = 0 by omega), if_neg (show ¬ (2 : Nat) = 0 by omega)]
    refine ⟨e1, e2, e3, trivial, trivial, by omega, e7, e8, e9, e10, e11, e12, fun j hj => ?_, fun j hj => ?_, fun j hj => ?_⟩
    · rw [f41]
      split
      · omega
      · exact e13 j (by omega)
    · rw [f41, if_neg (by omega)]
      exact e14 j hj
    · rw [f41, if_neg (by omega)]
      exact e15 j hj
  · obtain ⟨k1, k2, k3, k4, k5, k6, k7⟩ := h1
    unfold I1
    rw [f 10 (by omega) (by omega) (by omega) (by omega) (by omega) (by omega) (by omega), f 510 (by omega) (by omega) (by omega) (by omega) (by omega) (by omega) (by omega), f 12 (by omega) (by omega) (by omega) (by omega) (by omega) (by omega) (by omega), f 528 (by omega) (by omega) (by omega) (by omega) (by omega) (by omega) (by omega), f500]
    exact ⟨fun t => ⟨(k1 t).1, (k1 t).2.1, fun z => (k1 t).2.2 (by omega)⟩, fun t => ⟨(k2 t).1, (k2 t).2.1, fun z => (k2 t).2.2 (by omega)⟩, k3, k4, k5, k6, fun t j z hj => k7 t j (by omega) hj⟩
  · unfold I4
    rw [f4, f6, f 7 (by omega) (by omega) (by omega) (by omega) (by omega) (by omega) (by omega), f 8 (by omega) (by omega) (by omega) (by omega) (by omega) (by omega) (by omega), f501, f500, f 511 (by omega) (by omega) (by omega) (by omega) (by omega) (by omega) (by omega), f 512 (by omega) (by omega) (by omega) (by omega) (by omega) (by omega) (by omega), f 513 (by omega) (by omega) (by omega) (by omega) (by omega) (by omega) (by omega), f 514 (by omega) (by omega) (by omega) (by omega) (by omega) (by omega) (by omega), f 515 (by omega) (by omega) (by omega) (by omega) (by omega) (by omega) (by omega)]
    refine ⟨fun k hk => ?_, h4.2⟩
    obtain ⟨b1, b2, b3⟩ := h4.1 k hk
    exact ⟨b1, by omega, b3⟩
  · obtain ⟨a1, a2, a3, a4, a5, a6, a7⟩ := h5
    have e3 := h0.2.2.1
    unfold I5
    rw [f4, f5, f6, f501, f500]
    refine ⟨fun k hk => by rw [t40]; exact a1 k hk, fun t o ho => ?_, fun t ht => by rw [t40]; exact a3 t (by omega), fun t => by rw [t40]; exact a4 t, fun t j hj => ?_, fun t j i hij hj => ?_, fun k hk => ?_⟩
    · rw [t40] at ho
      exact a2 t o ho
    · rw [t40] at hj
      have := a4 t
      rw [t41 t j (by omega)]
      exact a5 t j hj
    · rw [t40] at hj
      have := a4 t
      rw [t41 t i (by omega), t41 t j (by omega)]
      exact a6 t j i hij hj
    · obtain ⟨j, j1, j2⟩ := a7 k hk
      have := a4 (σ 4 k)
      exact ⟨j, by rw [t40]; exact j1, by rw [t41 _ j (by omega)]; exact j2⟩
  · unfold I7
    rw [f4, f5, f501, f502, f 23 (by omega) (by omega) (by omega) (by omega) (by omega) (by omega) (by omega), f 516 (by omega) (by omega) (by omega) (by omega) (by omega) (by omega) (by omega)]
    exact ⟨fun h t ht => by rw [t40]; exact h7.1 h t ht, h7.2⟩
  · obtain ⟨b1, b2, b3, b4, b5, b6, b7, b8⟩ := h9
    have f11 := f 11 (by omega) (by omega) (by omega) (by omega) (by omega) (by omega) (by omega)
    have f524 := f 524 (by omega) (by omega) (by omega) (by omega) (by omega) (by omega) (by omega)
    have f525 := f 525 (by omega) (by omega) (by omega) (by omega) (by omega) (by omega) (by omega)
    have f526 := f 526 (by omega) (by omega) (by omega) (by omega) (by omega) (by omega) (by omega)
    have f527 := f 527 (by omega) (by omega) (by omega) (by omega) (by omega) (by omega) (by omega)
    have z11 := (b1 (σ 500 0)).2.2 (Nat.le_refl _)
    have seg : ∀ g t i, (g = 20 ∨ g = 21 ∨ g = 22) → i < σ 11 t → σ' g (t * 6 + i) = σ g (t * 6 + i) := by
      intro g t i hg hi
      have := (b1 t).2.1
      refine f20 g t i hg (fun w => ?_) (by omega)
      rw [w] at hi
      omega
    have inbe : ∀ t n i, inb σ' t n i ↔ inb σ t n i := by
      intro t n i
      unfold inb
      rw [f11]
      constructor
      · rintro ⟨a1, a2, a3⟩
        rw [seg 20 t i (by omega) a1] at a2
        rw [seg 21 t i (by omega) a1] at a3
        exact ⟨a1, a2, a3⟩
      · rintro ⟨a1, a2, a3⟩
        rw [seg 20 t i (by omega) a1, seg 21 t i (by omega) a1]
        exact ⟨a1, a2, a3⟩
    have inMe : ∀ t n, inM σ' t n ↔ inM σ t n := by
      intro t n
      unfold inM
      rw [f524, f525, f526]
    have tle : ∀ t n, tld σ' t n ↔ tld σ t n := by
      intro t n
      unfold tld
      rw [f4, f6, f501]
    refine ⟨fun t => ?_, fun t i hi => ?_, fun t i j hij hj => ?_, by rw [f524, f525, f526]; exact b4, fun t n => ?_, by rw [f527]; exact b6, fun t n i hn hi => ?_, fun t n hn hi => ?_⟩
    · rw [f11, f524, f500]
      exact ⟨(b1 t).1, (b1 t).2.1, fun z => (b1 t).2.2 (by omega)⟩
    · rw [f11] at hi
      rw [seg 20 t i (by omega) hi, seg 21 t i (by omega) hi, seg 22 t i (by omega) hi]
      exact b2 t i hi
    · rw [f11] at hj
      rw [seg 21 t i (by omega) (by omega), seg 20 t j (by omega) hj]
      exact b3 t i j hij hj
    · rw [inMe, b5]
      simp only [inbe]
    · have hi' := (inbe t n i).mp hi
      rw [f527, tle, seg 22 t i (by omega) hi'.1]
      exact b7 t n i hn hi'
    · rw [f527]
      exact b8 t n hn (fun w => hi ((inMe t n).mpr w))
theorem Step.teller (h : Rep n0 σ τ ad mm) (hI : Inv σ τ) : Step n0 ad mm (F_S_teller (ad 0 0)) (F_M_teller (ad 100 0)) := by
  obtain ⟨h0, h1, h2, h3, h4, h5, h6, h7, h8, h9⟩ := id hI
  obtain ⟨e1, e2, e3, e4, e5, e6, e7, e8, e9, e10, e11, e12, e13, e14, e15⟩ := id h0
  by_cases hT : σ 500 0 = 8
  · refine Step.same (r := -1) h hI ?_ ?_
    · unfold F_S_teller
      simp only [h.xS, gb1_some, h.size (l := 0) (by omega), gb2_some, e5, hT]
      rw [if_neg (by decide)]
    · unfold F_M_teller
      simp only [h.xM, gb1_some, hT]
      rw [if_pos (by decide)]
  have m1 : (gN mm (.inr (1, [.null, .null, .null, .int 0])) 4).1 mm.2.1 = some (.inr (1, [.null, .null, .null, .int 0])) := gN_s _ _ _
  obtain ⟨mm2, t1, t2, t3, t4, t5, t6, t7, t8, t9, t10, t11, t12, t13, t14⟩ := Teller_init_eq m1 (show mm.2.1 < mm.2.1 + 1 by omega)
  rw [show (gN mm (.inr (1, [.null, .null, .null, .int 0])) 4).2.1 = mm.2.1 + 1 from rfl] at t2 t5 t6 t7 t8 t9 t10 t11 t12 t13 t14
  rw [show (gN mm (.inr (1, [.null, .null, .null, .int 0])) 4).2.2.2 = mm.2.2.2 from rfl] at t4 t6
  rw [show (gN mm (.inr (1, [.null, .null, .null, .int 0])) 4).2.2.1 = mm.2.2.1 + 4 from rfl] at t3
  have hfar : ∀ x, x ≠ mm.2.1 → x < mm.2.1 + 1 ∨ mm.2.1 + 1 + 8 ≤ x → mm2.1 x = mm.1 x := fun x x1 x2 => by
    rw [t14 x x1 x2, gN_n x1]
  have r2 : Rep n0 σ τ ad mm2 := h.grow (fun x hx => hfar x (by omega) (by omega)) (by omega) (fun x hx => by
    rw [hfar x (by omega) (by omega)]
    exact h.2.2.2.1 x (by omega)) t4
  obtain ⟨σa, ada, ra, sf, s42, so, a11, aold⟩ := h.teller hI r2 t4 (by omega) t5 t6 t7 t8 t9 t10 t11 t12 t13
  have hu : ru σa (rek 0) (σ 500 0) := ⟨by show σ 500 0 < σa 42 1; rw [s42]; simp, fun z => by cases z⟩
  have hl40 := sf 40 (by omega) (by omega) (by omega) (by omega)
  have hl41 := sf 41 (by omega) (by omega) (by omega) (by omega)
  obtain ⟨mm3, adb, b1, rb, b3, b4, b5, b6⟩ := ra.app (l := 0) (e := σ 500 0) (by omega) hu (fun j hj => by
    rw [hl40, e5] at hj
    rw [hl41, Nat.zero_mul, Nat.zero_add, e13 j hj]
    exact ⟨by show j < σa 42 1; rw [s42]; simp; omega, fun z => by cases z⟩) (by rw [hl40]; have := hI.len 0; omega) (fun i _ => by rw [hl40]; have := hI.len i; omega)
  rw [hl40, e5, Nat.zero_mul, Nat.zero_add] at rb
  obtain ⟨mm4, d1, d2, rd⟩ := rb.p500 (σ 500 0 + 1)
  have n00 : ¬ ntl (σ 500 0) 0 0 := fun w => by unfold ntl tk at w; omega
  have n10 : ¬ ntl (σ 500 0) 1 0 := fun w => by unfold ntl tk at w; omega
  have n100 : ¬ ntl (σ 500 0) 100 0 := fun w => by unfold ntl tk at w; omega
  have q00 : adb 0 0 = ad 0 0 := by rw [b3 0 0 (by omega), aold 0 0 n00]
  have q10 : adb 1 0 = ad 1 0 := by rw [b3 1 0 (by omega), aold 1 0 n10]
  have q100 : adb 100 0 = ad 100 0 := by rw [b3 100 0 (by omega), aold 100 0 n100]
  have xS := rb.xS
  rw [q00, q10] at xS
  have xM := rb.xM
  rw [q100] at xM
  have xD := rd.xM
  rw [q100] at xD
  have hs0 := rb.size (l := 0) (by omega)
  rw [q10] at hs0
  rw [aold 1 0 n10, show rek 0 = 11 from rfl, a11] at b1
  rw [q100] at d1
  have g40 : uS (uS σa 40 0 (σ 500 0 + 1)) 41 (σ 500 0) (σ 500 0) 40 0 = σ 500 0 + 1 := by rw [uS_f (by omega), uS_s]
  have g500 : uS (uS σa 40 0 (σ 500 0 + 1)) 41 (σ 500 0) (σ 500 0) 500 0 = σ 500 0 := by rw [uS_f (by omega), uS_f (by omega), sf 500 (by omega) (by omega) (by omega) (by omega)]
  rw [g40] at hs0
  refine ⟨nI (σ 500 0), mm3, mm4, _, τ, adb, ?_, ?_, rd, hI.teller (by omega) (fun g z1 z2 z3 z4 z5 z6 z7 => ?_) (fun i => ?_) (fun g t j hg ht hj => ?_) (fun i => ?_) (fun i => ?_) ?_, q00, q100, rb.mid q100, by rw [b6, t4], by rw [d2]; omega, by rw [d2]; omega, by rw [d2, b6, t4]⟩
  · unfold F_S_teller
    simp only [h.xS, gb1_some, h.size (l := 0) (by omega), gb2_some, e5]
    rw [if_pos (show nI (σ 500 0) < (8 : Int32) from nI_lt (b := 8) (by omega) (by omega))]
    simp only [gnO, gb2_some, gb1_some, t1, r2.xS, b1, xS, hs0, nI_pred]
  · unfold F_M_teller
    simp only [xM, gb1_some, g500]
    rw [if_neg (show ¬ nI (σ 500 0) = (8 : Int32) from fun z => hT ((nI_eq (b := 8) (by omega) (by omega)).mp z))]
    simp only [nI_1, d1, gb1_some, xD, uS_s, nI_pred]
  · rw [uS_g z7, uS_g z6, uS_g z5, sf g z1 z2 z3 z4]
  · rw [uS_f (by omega), uS_f (by omega), uS_f (by omega), s42]
  · rw [uS_f (by omega), uS_f (by omega), uS_f (by omega), so g t j hg ht hj]
  · rw [uS_f (by omega), uS_f (by omega)]
    simp only [uS, true_and]
    rw [hl40]
  · rw [uS_f (by omega)]
    simp only [uS, true_and, if_neg (show ¬ ((41 : Nat) = 40 ∧ i = 0) from fun w => by omega)]
    rw [hl41]
  · rw [uS_s]
end TF
