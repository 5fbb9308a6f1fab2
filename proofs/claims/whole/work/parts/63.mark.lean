/-! mark -/
section MK
variable {n0 : Nat} {σ σ' : Nat → Nat → Nat} {τ τ' : Nat → Nat → Int64} {ad : Nat → Nat → Nat} {mm : gM}
theorem S_isSecond_eq (a : Int64) : F_S_isSecond a mm = F_M_isIn a 0 1000000000 mm := rfl
theorem isInS (mm : gM) (a : Int64) : F_M_isIn a 0 1000000000 mm = some (0, mm) ∨ ((∀ mm' : gM, F_M_isIn a 0 1000000000 mm' = some (1, mm')) ∧ cok a) := by
  unfold F_M_isIn cok
  by_cases c1 : a < 0
  · rw [if_pos c1]
    exact Or.inl rfl
  · rw [if_neg c1]
    by_cases c2 : 1000000000 < a
    · rw [if_pos c2]
      exact Or.inl rfl
    · right
      refine ⟨fun mm' => ?_, Int64.not_lt.mp c1, Int64.not_lt.mp c2⟩
      rw [if_neg c1, if_neg c2]
theorem Clock_add_no (h : Rep n0 σ τ ad mm) {t : Nat} (ht : t < σ 42 1) (hc : σ 12 t ≤ 6) (a b : Int64) (hn : σ 12 t = 6 ∨ ∃ c, σ 12 t = c + 1 ∧ (a ≤ τ 20 (t * 6 + c) ∨ ¬ τ 21 (t * 6 + c) < b)) : F_Clock_add (ad 16 t) a b mm = some (0, mm) := by
  unfold F_Clock_add
  by_cases h6 : σ 12 t = 6
  · simp only [h.xTr ht, gb1_some, h6]
    rw [if_neg (by decide)]
  · obtain ⟨c, hc1, hd⟩ := hn.resolve_left h6
    simp only [h.xTr ht, gb1_some, hc1, gLet]
    rw [if_pos (show nI (c + 1) < 6 from nI_lt (b := 6) (by omega) (by omega)), if_neg (nI_nle (by omega) (by omega)), nI_pred, h.b20 ht (j := c) (by omega), gb1_some]
    by_cases q : a ≤ τ 20 (t * 6 + c)
    · rw [if_pos q]
    · rw [if_neg q, h.b21 ht (j := c) (by omega), gb1_some, if_neg (hd.resolve_left q)]
theorem Clock_add_yes (h : Rep n0 σ τ ad mm) {t : Nat} (ht : t < σ 42 1) (a b : Int64) (hc : σ 12 t < 6) (hn : ∀ c, σ 12 t = c + 1 → ¬ a ≤ τ 20 (t * 6 + c) ∧ τ 21 (t * 6 + c) < b) : ∃ mm' : gM, F_Clock_add (ad 16 t) a b mm = some (1, mm') ∧ mm'.2 = mm.2 ∧ Rep n0 (uS σ 12 t (σ 12 t + 1)) (uT (uT τ 20 (t * 6 + σ 12 t) a) 21 (t * 6 + σ 12 t) b) ad mm' := by
  obtain ⟨mm1, a1, b1, r1⟩ := h.v20 ht (j := σ 12 t) hc a
  obtain ⟨mm2, a2, b2, r2⟩ := r1.v21 ht (j := σ 12 t) hc b
  obtain ⟨mm3, a3, b3, r3⟩ := r2.p12 ht (σ 12 t + 1)
  refine ⟨mm3, ?_, by rw [b3, b2, b1], r3⟩
  have hJ : (gb1 (gfR 3 0 (some (ad 16 t)) mm) fun v6 => gb1 (gfI 3 2 (some (ad 16 t)) mm) fun v8 => gb1 (gsL 1 v6 v8 a mm) fun mm10 => gb1 (gfR 3 1 (some (ad 16 t)) mm10) fun v12 => gb1 (gfI 3 2 (some (ad 16 t)) mm10) fun v14 => gb1 (gsL 1 v12 v14 b mm10) fun mm16 => gb1 (gfI 3 2 (some (ad 16 t)) mm16) fun v18 => gb1 (gpV 3 2 (some (ad 16 t)) (.int (v18 + (1 : Int32))) mm16) fun mm20 => some ((1 : Int32), mm20)) = some (1, mm3) := by
    simp only [h.xTr ht, r1.xTr ht, r2.xTr ht, gb1_some, a1, a2, nI_1, a3]
  unfold F_Clock_add
  simp only [gLet]
  rw [hJ]
  simp only [h.xTr ht, gb1_some]
  rw [if_pos (show nI (σ 12 t) < 6 from nI_lt (b := 6) (by omega) (by omega))]
  cases hm : σ 12 t with
  | zero => rw [if_pos (by decide)]
  | succ c =>
    obtain ⟨n1, n2⟩ := hn c hm
    rw [if_neg (nI_nle (by omega) (by omega)), nI_pred, h.b20 ht (j := c) (by omega), gb1_some, if_neg n1, h.b21 ht (j := c) (by omega), gb1_some, if_pos n2]
theorem M_mark_no (h : Rep n0 σ τ ad mm) {t : Nat} (ht : t < σ 500 0) (hT : σ 500 0 ≤ 8) (hc : σ 528 t ≤ 6) (a b : Int64) (ha : ∀ mm' : gM, F_M_isIn a 0 1000000000 mm' = some (1, mm')) (hb : ∀ mm' : gM, F_M_isIn b 0 1000000000 mm' = some (1, mm')) (hn : σ 528 t = 6 ∨ ∃ c, σ 528 t = c + 1 ∧ (a ≤ τ 511 (t * 6 + c) ∨ ¬ τ 512 (t * 6 + c) < b)) : F_M_mark (ad 100 0) (nI t) a b mm = some (0, mm) := by
  unfold F_M_mark
  simp only [gLet, h.xM, gb1_some, M_isTeller_yes h ht hT, gb2_some, if_neg (show ¬ (1 : Int32) = 0 by decide), ha, hb, h.a528 (j := t) (by omega)]
  by_cases h6 : σ 528 t = 6
  · simp only [h6]
    rw [if_pos (by decide)]
  · obtain ⟨c, hc1, hd⟩ := hn.resolve_left h6
    simp only [hc1]
    rw [if_neg (fun z => by have := (nI_eq (a := c + 1) (b := 6) (by omega) (by omega)).mp z; omega), if_neg (nI_nle (by omega) (by omega)), ix6, show t * 6 + (c + 1) = (t * 6 + c) + 1 from rfl, nI_pred, h.b511 (j := t * 6 + c) (by omega), gb1_some]
    by_cases q : a ≤ τ 511 (t * 6 + c)
    · rw [if_pos q]
    · rw [if_neg q, h.b512 (j := t * 6 + c) (by omega), gb1_some, if_neg (hd.resolve_left q)]
theorem M_mark_yes (h : Rep n0 σ τ ad mm) {t : Nat} (ht : t < σ 500 0) (hT : σ 500 0 ≤ 8) (a b : Int64) (ha : ∀ mm' : gM, F_M_isIn a 0 1000000000 mm' = some (1, mm')) (hb : ∀ mm' : gM, F_M_isIn b 0 1000000000 mm' = some (1, mm')) (hc : σ 528 t < 6) (hn : ∀ c, σ 528 t = c + 1 → ¬ a ≤ τ 511 (t * 6 + c) ∧ τ 512 (t * 6 + c) < b) : ∃ mm' : gM, F_M_mark (ad 100 0) (nI t) a b mm = some (1, mm') ∧ mm'.2 = mm.2 ∧ Rep n0 (uS σ 528 t (σ 528 t + 1)) (uT (uT τ 511 (t * 6 + σ 528 t) a) 512 (t * 6 + σ 528 t) b) ad mm' := by
  obtain ⟨mm1, a1, b1, r1⟩ := h.v511 (j := t * 6 + σ 528 t) (by omega) a
  obtain ⟨mm2, a2, b2, r2⟩ := r1.v512 (j := t * 6 + σ 528 t) (by omega) b
  obtain ⟨mm3, a3, b3, r3⟩ := r2.w528 (j := t) (by omega) (σ 528 t + 1)
  refine ⟨mm3, ?_, by rw [b3, b2, b1], r3⟩
  unfold F_M_mark
  simp only [gLet, h.xM, r1.xM, r2.xM, gb1_some, M_isTeller_yes h ht hT, gb2_some, if_neg (show ¬ (1 : Int32) = 0 by decide), ha, hb, h.a528 (j := t) (by omega), r2.a528 (j := t) (by omega), ix6, a1, a2, a3, nI_1]
  rw [if_neg (fun z => by have := (nI_eq (a := σ 528 t) (b := 6) (by omega) (by omega)).mp z; omega)]
  cases hm : σ 528 t with
  | zero => rw [if_pos (by decide)]
  | succ c =>
    obtain ⟨n1, n2⟩ := hn c hm
    rw [if_neg (nI_nle (by omega) (by omega)), show t * 6 + (c + 1) = (t * 6 + c) + 1 from rfl, nI_pred, h.b511 (j := t * 6 + c) (by omega), gb1_some, if_neg n1, h.b512 (j := t * 6 + c) (by omega), gb1_some, if_pos n2]
theorem I1.mark (h : I1 σ τ) {t : Nat} (htT : t < σ 500 0) {a b : Int64} (ha : cok a) (hb : cok b) (hc : σ 12 t < 6) (hn : ∀ c, σ 12 t = c + 1 → ¬ a ≤ τ 20 (t * 6 + c) ∧ τ 21 (t * 6 + c) < b) : I1 (uS (uS σ 12 t (σ 12 t + 1)) 528 t (σ 12 t + 1)) (uT (uT (uT (uT τ 20 (t * 6 + σ 12 t) a) 21 (t * 6 + σ 12 t) b) 511 (t * 6 + σ 12 t) a) 512 (t * 6 + σ 12 t) b) := by
  obtain ⟨k1, k2, k3, k4, k5, k6, k7⟩ := h
  unfold I1
  have f20 : ∀ i, uT (uT (uT (uT τ 20 (t * 6 + σ 12 t) a) 21 (t * 6 + σ 12 t) b) 511 (t * 6 + σ 12 t) a) 512 (t * 6 + σ 12 t) b 20 i = if i = t * 6 + σ 12 t then a else τ 20 i := by
    intro i
    rw [uT_f (by omega), uT_f (by omega), uT_f (by omega)]
    simp only [uT, true_and]
  have f21 : ∀ i, uT (uT (uT (uT τ 20 (t * 6 + σ 12 t) a) 21 (t * 6 + σ 12 t) b) 511 (t * 6 + σ 12 t) a) 512 (t * 6 + σ 12 t) b 21 i = if i = t * 6 + σ 12 t then b else τ 21 i := by
    intro i
    rw [uT_f (by omega), uT_f (by omega)]
    simp [uT]
  have f511 : ∀ i, uT (uT (uT (uT τ 20 (t * 6 + σ 12 t) a) 21 (t * 6 + σ 12 t) b) 511 (t * 6 + σ 12 t) a) 512 (t * 6 + σ 12 t) b 511 i = if i = t * 6 + σ 12 t then a else τ 511 i := by
    intro i
    simp [uT]
  have f512 : ∀ i, uT (uT (uT (uT τ 20 (t * 6 + σ 12 t) a) 21 (t * 6 + σ 12 t) b) 511 (t * 6 + σ 12 t) a) 512 (t * 6 + σ 12 t) b 512 i = if i = t * 6 + σ 12 t then b else τ 512 i := by
    intro i
    simp [uT]
  have f12 : ∀ i, uS (uS σ 12 t (σ 12 t + 1)) 528 t (σ 12 t + 1) 12 i = if i = t then σ 12 t + 1 else σ 12 i := by
    intro i
    simp [uS]
  have f528 : ∀ i, uS (uS σ 12 t (σ 12 t + 1)) 528 t (σ 12 t + 1) 528 i = if i = t then σ 12 t + 1 else σ 528 i := by
    intro i
    simp [uS]
  rw [uS_g (show (10 : Nat) ≠ 528 by omega), uS_g (show (10 : Nat) ≠ 12 by omega), uS_g (show (510 : Nat) ≠ 528 by omega), uS_g (show (510 : Nat) ≠ 12 by omega), uS_g (show (500 : Nat) ≠ 528 by omega), uS_g (show (500 : Nat) ≠ 12 by omega)]
  refine ⟨k1, fun t' => ?_, fun i => ?_, fun i => ?_, fun t' j hj => ?_, fun t' j hj => ?_, fun t' j ht' hj => ?_⟩
  · rw [f12, f528]
    split
    · omega
    · exact k2 t'
  · rw [f20, f511, k3]
  · rw [f21, f512, k4]
  · rw [f12] at hj
    rw [f20, f21]
    by_cases e : t' * 6 + j = t * 6 + σ 12 t
    · rw [if_pos e, if_pos e]
      exact ⟨ha, hb⟩
    · rw [if_neg e, if_neg e]
      split at hj
      · next q => subst q; exact k5 _ _ (by omega)
      · exact k5 _ _ hj
  · rw [f12] at hj
    have hm := (k2 t').2.1
    have hj6 : j + 1 < 6 := by split at hj <;> omega
    rw [f20, f20, f21, f21]
    by_cases e0 : t' * 6 + j = t * 6 + σ 12 t
    · obtain ⟨q1, q2⟩ := r_seg (n := 6) (by omega) hc e0
      subst q1
      rw [if_pos rfl] at hj
      omega
    · rw [if_neg e0, if_neg e0]
      by_cases e1 : t' * 6 + (j + 1) = t * 6 + σ 12 t
      · obtain ⟨q1, q2⟩ := r_seg (n := 6) (by omega) hc e1
        subst q1
        rw [if_pos e1, if_pos e1]
        obtain ⟨n1, n2⟩ := hn j q2.symm
        exact ⟨Int64.not_le.mp n1, n2⟩
      · rw [if_neg e1, if_neg e1]
        split at hj
        · next q =>
          subst q
          exact k6 _ _ (by omega)
        · exact k6 _ _ hj
  · rw [f20, f21, if_neg (by omega), if_neg (by omega)]
    exact k7 t' j ht' hj
theorem Step.mark (h : Rep n0 σ τ ad mm) (hI : Inv σ τ) (a : Int32) (x y : Int64) : Step n0 ad mm (F_S_mark (ad 0 0) a x y) (F_M_mark (ad 100 0) a x y) := by
  obtain ⟨h0, h1, h2, h3, h4, h5, h6, h7, h8, h9⟩ := id hI
  rcases tel h h0 a with ⟨hS, hM⟩ | ⟨t, ht, rfl⟩
  · refine Step.same (r := 0) h hI ?_ ?_
    · unfold F_S_mark
      simp only [h.xS, gb1_some, gb2_some, hS, if_true]
    · unfold F_M_mark
      simp only [gLet, h.xM, gb1_some, gb2_some, hM, if_true]
  obtain ⟨e1, e2, e3, e4, e5, e6, e7, e8, e9, -⟩ := id h0
  have hS := S_tellerAt_yes h h0 ht
  have hM := M_isTeller_yes h ht e6
  rcases isInS mm x with hx | ⟨hx, cx⟩
  · refine Step.same (r := 0) h hI ?_ ?_
    · unfold F_S_mark
      simp only [h.xS, gb1_some, gb2_some, hS, S_isSecond_eq, hx, if_true, reduceCtorEq, if_false]
    · unfold F_M_mark
      simp only [gLet, h.xM, gb1_some, gb2_some, hM, hx, if_true, if_neg (show ¬ (1 : Int32) = 0 by decide)]
  rcases isInS mm y with hy | ⟨hy, cy⟩
  · refine Step.same (r := 0) h hI ?_ ?_
    · unfold F_S_mark
      simp only [h.xS, gb1_some, gb2_some, hS, S_isSecond_eq, hx, hy, if_true, reduceCtorEq, if_false, if_neg (show ¬ (1 : Int32) = 0 by decide)]
    · unfold F_M_mark
      simp only [gLet, h.xM, gb1_some, gb2_some, hM, hx, hy, if_true, if_neg (show ¬ (1 : Int32) = 0 by decide)]
  obtain ⟨k1, k2, k3, k4, k5, k6, k7⟩ := id h1
  obtain ⟨q1, q2, -⟩ := k2 t
  by_cases hn : σ 12 t = 6 ∨ ∃ c, σ 12 t = c + 1 ∧ (x ≤ τ 20 (t * 6 + c) ∨ ¬ τ 21 (t * 6 + c) < y)
  · refine Step.same (r := 0) h hI ?_ ?_
    · unfold F_S_mark
      simp only [h.xS, h.xTr (t := t) (by omega), gb1_some, gb2_some, hS, S_isSecond_eq, hx, hy, if_true, reduceCtorEq, if_false, if_neg (show ¬ (1 : Int32) = 0 by decide), Clock_add_no h (by omega) q2 x y hn]
    · refine M_mark_no h ht e6 (by omega) x y hx hy ?_
      rw [← q1]
      simp only [← k3, ← k4]
      exact hn
  · have hc : σ 12 t < 6 := by
      rcases Nat.lt_or_ge (σ 12 t) 6 with z | z
      · exact z
      · exact absurd (Or.inl (by omega)) hn
    have hn' : ∀ c, σ 12 t = c + 1 → ¬ x ≤ τ 20 (t * 6 + c) ∧ τ 21 (t * 6 + c) < y := by
      intro c hc1
      refine ⟨fun z => hn (Or.inr ⟨c, hc1, Or.inl z⟩), ?_⟩
      rcases Classical.em (τ 21 (t * 6 + c) < y) with z | z
      · exact z
      · exact absurd (Or.inr ⟨c, hc1, Or.inr z⟩) hn
    obtain ⟨mm1, a1, b1, r1⟩ := Clock_add_yes h (t := t) (by omega) x y hc hn'
    obtain ⟨mm2, a2, b2, r2⟩ := M_mark_yes r1 (t := t) (by rw [uS_f (by omega)]; exact ht) (by rw [uS_f (by omega)]; exact e6) x y hx hy (by rw [uS_f (by omega), ← q1]; exact hc) (by
      intro c hc1
      rw [uS_f (by omega), ← q1] at hc1
      rw [uT_f (by omega), uT_f (by omega), uT_f (by omega), uT_f (by omega), ← k3, ← k4]
      exact hn' c hc1)
    rw [uS_f (show (528 : Nat) ≠ 12 by omega), ← q1] at r2
    refine Step.mk0 (r := 1) ?_ b1 r1 a2 b2 r2 (hI.g1 (h1.mark ht cx cy hc hn') (fun f _ _ _ _ => (uS_g (by omega)).trans (uS_g (by omega))) (fun f _ _ _ _ => (((uT_g (by omega)).trans (uT_g (by omega))).trans (uT_g (by omega))).trans (uT_g (by omega))))
    unfold F_S_mark
    simp only [h.xS, h.xTr (t := t) (by omega), gb1_some, gb2_some, hS, S_isSecond_eq, hx, hy, if_true, reduceCtorEq, if_false, if_neg (show ¬ (1 : Int32) = 0 by decide), a1]
end MK
