/-! settle -/
section SM
variable {n0 : Nat} {σ σ' : Nat → Nat → Nat} {τ τ' : Nat → Nat → Int64} {ad ad' : Nat → Nat → Nat} {mm mm' : gM}
theorem M_settle_no (h : Rep n0 σ' τ' ad mm) (hF : FM σ σ') (hI : Inv σ τ) {s : Nat} (hs : s < σ 502 0) (hS : σ 503 0 ≠ 40) (a1 a2 a3 : Int32) (hz : ∀ g' : Nat → Nat, CurM σ (ofM σ s a1 a2 100000) (σ 501 0) g' → ∀ i, i < σ 501 0 → ¬ (g' i = 1 ∧ nI (σ 511 i) = a3)) :
    ∃ (σ'' : Nat → Nat → Nat) (mm' : gM), F_M_settle (ad 100 0) (nI s) a1 a2 a3 mm = some (-1, mm') ∧ mm'.2 = mm.2 ∧ Rep n0 σ'' τ' ad mm' ∧ ∀ g, g ≠ 529 → σ'' g = σ' g := by
  obtain ⟨e1, e2, e3, e4, e5, e6, e7, e8, e9, e10, e11, e12, -⟩ := id hI.1
  have hM := M_isSet_yes h (t := s) (by rw [hF.allM.2.2.1]; exact hs) (by rw [hF.allM.2.2.1]; exact e9)
  obtain ⟨σd, mm1, a, b, r, F, cu⟩ := N_findCurrent h hF hI (r := s) (by omega) a1 a2 100000
  have d501 : σd 501 = σ 501 := (F 501 (by omega)).trans hF.allM.2.1
  have d511 : σd 511 = σ 511 := (F 511 (by omega)).trans hF.allM.2.2.2.2.1
  refine ⟨σd, mm1, ?_, b, r, F⟩
  unfold F_M_settle
  obtain ⟨f, hf, hfe⟩ := gF_big
  rw [hfe]
  simp only [h.xM, gb1_some, gb2_some, hM, if_neg (show ¬ (1 : Int32) = 0 by decide), hF.allM]
  rw [if_neg (show ¬ nI (σ 503 0) = (40 : Int32) from fun z => hS ((nI_eq (b := 40) (by omega) (by omega)).mp z)), a, gb2_some]
  rcases set36 r (by rw [d501]; exact e3) (fun k hk => (cu k (by rw [← d501]; exact hk)).1) (a0 := nI s) (a1 := a1) (a2 := a2) (a3 := a3) (K := fun p0 p1 p2 p3 p4 p6 mm =>
        if p6 = 0 then (
          some ((-1 : Int32), mm))
        else (
          gb1 (gfR 10 14 p0 mm) fun v35 =>
          gb1 (gfI 10 13 p0 mm) fun v37 =>
          gb1 (gsI 0 v35 v37 p2 mm) fun mm39 =>
          gb1 (gfR 10 15 p0 mm39) fun v41 =>
          gb1 (gfI 10 13 p0 mm39) fun v43 =>
          gb1 (gsI 0 v41 v43 p3 mm39) fun mm45 =>
          gb1 (gfR 10 16 p0 mm45) fun v47 =>
          gb1 (gfI 10 13 p0 mm45) fun v49 =>
          gb1 (gsI 0 v47 v49 p4 mm45) fun mm51 =>
          L_M_settle_131 (fun p0 p1 mm =>
            gb1 (gfR 10 11 p0 mm) fun v68 =>
            gb1 (gfI 10 13 p0 mm) fun v70 =>
            gb1 (gsI 2 v68 (((40 : Int32) * p1) + v70) (1 : Int32) mm) fun mm72 =>
            gb1 (gfI 10 13 p0 mm72) fun v74 =>
            gb1 (gpV 10 13 p0 (.int (v74 + (1 : Int32))) mm72) fun mm76 =>
            gb1 (gfI 10 13 p0 mm76) fun v78 =>
            some (v78, mm76)) f p0 p1 (0 : Int32) mm51)) (σd 501 0) 0 f 0 (by omega) (by rw [d501]; omega) (Or.inr ⟨rfl, fun i hi => by omega⟩) with ⟨⟨i, i1, i2, i3⟩, -⟩ | ⟨-, z⟩
  · rw [d501] at i1
    rw [d511] at i3
    exact absurd ⟨i2, i3⟩ (hz _ cu i i1)
  · rw [d501, show nI 0 = (0 : Int32) from rfl] at z
    rw [z, if_pos rfl]
theorem M_settle_yes (h : Rep n0 σ' τ' ad mm) (hF : FM σ σ') (hI : Inv σ τ) {s c t S : Nat} (hs : s < σ 502 0) (hS0 : σ 503 0 = S) (hS : S < 40) (hz : ∀ g' : Nat → Nat, CurM σ (ofM σ s (nI (c / 8)) (nI (c % 8)) 100000) (σ 501 0) g' → ∃ i, i < σ 501 0 ∧ g' i = 1 ∧ nI (σ 511 i) = nI t) :
    ∃ (σ'' : Nat → Nat → Nat) (mm' : gM) (G : Nat → Nat), F_M_settle (ad 100 0) (nI s) (nI (c / 8)) (nI (c % 8)) (nI t) mm = some (nI (S + 1), mm') ∧ mm'.2 = mm.2 ∧ Rep n0 σ'' τ' ad mm' ∧ CurM σ (ofM σ s (nI (c / 8)) (nI (c % 8)) 100000) (σ 501 0) G ∧ (∀ g, g ≠ 529 → g ≠ 519 → g ≠ 520 → g ≠ 521 → g ≠ 522 → g ≠ 517 → g ≠ 503 → σ'' g = σ' g) ∧
      (∀ i, σ'' 519 i = if i = S then c / 8 else σ 519 i) ∧ (∀ i, σ'' 520 i = if i = S then c % 8 else σ 520 i) ∧ (∀ i, σ'' 521 i = if i = S then t else σ 521 i) ∧ (∀ j, σ'' 522 j = if S * 200 ≤ j ∧ j < S * 200 + σ 501 0 then G (j - S * 200) else σ 522 j) ∧ (∀ j, σ'' 517 j = if j = s * 40 + S then 1 else σ 517 j) ∧ σ'' 503 0 = S + 1 := by
  obtain ⟨e1, e2, e3, e4, e5, e6, e7, e8, e9, e10, e11, e12, -⟩ := id hI.1
  have hM := M_isSet_yes h (t := s) (by rw [hF.allM.2.2.1]; exact hs) (by rw [hF.allM.2.2.1]; exact e9)
  obtain ⟨σd, mm1, a, b, r, F, cu⟩ := N_findCurrent h hF hI (r := s) (by omega) (nI (c / 8)) (nI (c % 8)) 100000
  have d501 : σd 501 = σ 501 := (F 501 (by omega)).trans (hF 501 (by omega) (by omega))
  have d511 : σd 511 = σ 511 := (F 511 (by omega)).trans (hF 511 (by omega) (by omega))
  have d503 : σd 503 0 = S := by rw [F 503 (by omega), hF 503 (by omega) (by omega), hS0]
  obtain ⟨M1, x1, y1, R1⟩ := r.w519 (j := S) (by omega) (c / 8)
  obtain ⟨M2, x2, y2, R2⟩ := R1.w520 (j := S) (by omega) (c % 8)
  obtain ⟨M3, x3, y3, R3⟩ := R2.w521 (j := S) (by omega) t
  obtain ⟨f, hf, hfe⟩ := gF_big
  obtain ⟨σe, M4, x4, y4, R4, E4, E4'⟩ := set131 (n0 := n0) (ad := ad) (τ := τ') (p1 := nI s) (K := fun p0 p1 mm =>
            gb1 (gfR 10 11 p0 mm) fun v68 =>
            gb1 (gfI 10 13 p0 mm) fun v70 =>
            gb1 (gsI 2 v68 (((40 : Int32) * p1) + v70) (1 : Int32) mm) fun mm72 =>
            gb1 (gfI 10 13 p0 mm72) fun v74 =>
            gb1 (gpV 10 13 p0 (.int (v74 + (1 : Int32))) mm72) fun mm76 =>
            gb1 (gfI 10 13 p0 mm76) fun v78 =>
            some (v78, mm76)) (σ 501 0) S e3 hS (σ 501 0) 0 f _ M3 R3 (by rw [uS_f (by omega), uS_f (by omega), uS_f (by omega), d501]) (by rw [uS_f (by omega), uS_f (by omega), uS_f (by omega), d503]) (by
    rw [uS_g (by omega), uS_g (by omega), uS_g (by omega)]
    exact fun k hk => (cu k hk).1) (by omega) (by omega)
  have e503 : σe 503 0 = S := by rw [E4 503 (by omega), uS_f (by omega), uS_f (by omega), uS_f (by omega), d503]
  obtain ⟨M5, x5, y5, R5⟩ := R4.w517 (j := s * 40 + S) (by omega) 1
  obtain ⟨M6, x6, y6, R6⟩ := R5.p503 (S + 1)
  refine ⟨_, M6, σd 529, ?_, by rw [y6, y5, y4, y3, y2, y1, b], R6, cu, fun g z1 z2 z3 z4 z5 z6 z7 => ?_, fun i => ?_, fun i => ?_, fun i => ?_, fun j => ?_, fun j => ?_, ?_⟩
  · unfold F_M_settle
    rw [hfe]
    simp only [h.xM, gb1_some, gb2_some, hM, if_neg (show ¬ (1 : Int32) = 0 by decide), hF.allM]
    rw [if_neg (show ¬ nI (σ 503 0) = (40 : Int32) from fun z => by
      have := (nI_eq (b := 40) (by omega) (by omega)).mp z
      omega), a, gb2_some]
    rcases set36 r (by rw [d501]; exact e3) (fun k hk => (cu k (by rw [← d501]; exact hk)).1) (a0 := nI s) (a1 := nI (c / 8)) (a2 := nI (c % 8)) (a3 := nI t) (K := fun p0 p1 p2 p3 p4 p6 mm =>
        if p6 = 0 then (
          some ((-1 : Int32), mm))
        else (
          gb1 (gfR 10 14 p0 mm) fun v35 =>
          gb1 (gfI 10 13 p0 mm) fun v37 =>
          gb1 (gsI 0 v35 v37 p2 mm) fun mm39 =>
          gb1 (gfR 10 15 p0 mm39) fun v41 =>
          gb1 (gfI 10 13 p0 mm39) fun v43 =>
          gb1 (gsI 0 v41 v43 p3 mm39) fun mm45 =>
          gb1 (gfR 10 16 p0 mm45) fun v47 =>
          gb1 (gfI 10 13 p0 mm45) fun v49 =>
          gb1 (gsI 0 v47 v49 p4 mm45) fun mm51 =>
          L_M_settle_131 (fun p0 p1 mm =>
            gb1 (gfR 10 11 p0 mm) fun v68 =>
            gb1 (gfI 10 13 p0 mm) fun v70 =>
            gb1 (gsI 2 v68 (((40 : Int32) * p1) + v70) (1 : Int32) mm) fun mm72 =>
            gb1 (gfI 10 13 p0 mm72) fun v74 =>
            gb1 (gpV 10 13 p0 (.int (v74 + (1 : Int32))) mm72) fun mm76 =>
            gb1 (gfI 10 13 p0 mm76) fun v78 =>
            some (v78, mm76)) f p0 p1 (0 : Int32) mm51)) (σd 501 0) 0 f 0 (by omega) (by rw [d501]; omega) (Or.inr ⟨rfl, fun i hi => by omega⟩) with ⟨-, z⟩ | ⟨z, -⟩
    · rw [d501, show nI 0 = (0 : Int32) from rfl] at z
      rw [z, if_neg (by decide)]
      rw [show nI 0 = (0 : Int32) from rfl] at x4
      rw [show nI 1 = (1 : Int32) from rfl] at x5
      simp only [r.xM, gb1_some, d503, x1, R1.xM, uS_f (show (503 : Nat) ≠ 519 by omega), x2, R2.xM, uS_f (show (503 : Nat) ≠ 520 by omega), x3, x4, R4.xM, e503, ix40, x5, R5.xM, uS_f (show (503 : Nat) ≠ 517 by omega), nI_1, x6, R6.xM, uS_s]
    · obtain ⟨i, i1, i2, i3⟩ := hz _ cu
      exact absurd ⟨i2, by rw [d511]; exact i3⟩ (z i (by rw [d501]; exact i1))
  · rw [uS_g z7, uS_g z6, E4 g z5, uS_g z4, uS_g z3, uS_g z2, F g z1]
  · rw [uS_f (by omega), uS_f (by omega), E4 519 (by omega), uS_f (by omega), uS_f (by omega)]
    by_cases z : i = S
    · rw [z, uS_s, if_pos rfl]
    · rw [uS_i z, if_neg z, F 519 (by omega), hF 519 (by omega) (by omega)]
  · rw [uS_f (by omega), uS_f (by omega), E4 520 (by omega), uS_f (by omega)]
    by_cases z : i = S
    · rw [z, uS_s, if_pos rfl]
    · rw [uS_i z, if_neg z, uS_f (by omega), F 520 (by omega), hF 520 (by omega) (by omega)]
  · rw [uS_f (by omega), uS_f (by omega), E4 521 (by omega)]
    by_cases z : i = S
    · rw [z, uS_s, if_pos rfl]
    · rw [uS_i z, if_neg z, uS_f (by omega), uS_f (by omega), F 521 (by omega), hF 521 (by omega) (by omega)]
  · rw [uS_f (by omega), uS_f (by omega), E4', Nat.add_zero, uS_g (show (529 : Nat) ≠ 521 by omega), uS_g (show (529 : Nat) ≠ 520 by omega), uS_g (show (529 : Nat) ≠ 519 by omega), uS_f (by omega), uS_f (by omega), uS_f (by omega), F 522 (by omega), hF 522 (by omega) (by omega)]
  · rw [uS_f (by omega)]
    by_cases z : j = s * 40 + S
    · rw [z, uS_s, if_pos rfl]
    · rw [uS_i z, if_neg z, E4 517 (by omega), uS_f (by omega), uS_f (by omega), uS_f (by omega), F 517 (by omega), hF 517 (by omega) (by omega)]
  · rw [uS_s]
theorem Step.settle (h : Rep n0 σ τ ad mm) (hI : Inv σ τ) (a0 a1 a2 a3 : Int32) : Step n0 ad mm (F_S_settle (ad 0 0) a0 a1 a2 a3) (F_M_settle (ad 100 0) a0 a1 a2 a3) := by
  obtain ⟨h0, h1, h2, h3, h4, h5, h6, h7, h8, h9⟩ := id hI
  obtain ⟨e1, e2, e3, e4, e5, e6, e7, e8, e9, e10, e11, e12, e13, e14, e15⟩ := id h0
  have n1 : ¬ (1 : Int32) = 0 := by decide
  rcases stl h h0 a0 with ⟨hS, hM⟩ | ⟨s, hs, rfl⟩
  · have hcell : ∃ w, ∀ mm : gM, F_S_cellOf a1 a2 mm = some (w, mm) := by
      rcases cel a1 a2 with ⟨w, -⟩ | ⟨c, -, w, -⟩
      · exact ⟨_, w⟩
      · exact ⟨_, w⟩
    obtain ⟨w, hw⟩ := hcell
    refine Step.same (r := -1) h hI ?_ ?_
    · unfold F_S_settle
      simp only [h.xS, gb1_some, gb2_some, hS, hw, if_true]
    · unfold F_M_settle
      simp only [h.xM, gb1_some, gb2_some, hM, if_true]
  have hS := S_setAt_yes h h0 hs
  have hM := M_isSet_yes h hs e9
  obtain ⟨S, hS0⟩ : ∃ S, σ 503 0 = S := ⟨_, rfl⟩
  by_cases zS : S = 40
  · refine Step.same (r := -1) h hI ?_ ?_
    · unfold F_S_settle
      rcases cel a1 a2 with ⟨hw, hno⟩ | ⟨c, hc, hw, rfl, rfl⟩
      · simp only [h.xS, gb1_some, gb2_some, hS, hw, reduceCtorEq, if_false, if_true]
      · rcases tel h h0 a3 with ⟨hT, -⟩ | ⟨t, ht, rfl⟩
        · simp only [h.xS, gb1_some, gb2_some, hS, hw, reduceCtorEq, if_false, if_neg (c_ne1 hc), hT, if_true]
        · simp only [h.xS, gb1_some, gb2_some, hS, hw, reduceCtorEq, if_false, if_neg (c_ne1 hc), S_tellerAt_yes h h0 ht, h.size (l := 2) (by omega), e11, hS0, zS]
          rw [if_neg (by decide)]
    · unfold F_M_settle
      simp only [h.xM, gb1_some, gb2_some, hM, if_neg n1, hS0, zS]
      rw [if_pos (by decide)]
  have hFM : FM σ σ := fun _ _ _ => rfl
  have hCm : ∀ {th ki : Int32} {g' : Nat → Nat} {i : Nat}, CurM σ (ofM σ s th ki 100000) (σ 501 0) g' → i < σ 501 0 → g' i = 1 → ofM σ s th ki 100000 i := fun hc hi w => ((hc _ hi).2.mp w).1
  rcases cel a1 a2 with ⟨hw, hno⟩ | ⟨c, hc, hw, rfl, rfl⟩
  · obtain ⟨σ2, mm2, x1, x2, x3, x4⟩ := M_settle_no h hFM hI hs (by omega) a1 a2 a3 (fun g' hg i hi w => by
      have := hCm hg hi w.1
      exact no_of hI hno i hi ⟨this.2.2.1, this.2.2.2.1⟩)
    refine Step.mk0 (r := -1) (σ1 := σ) (τ1 := τ) (mm1 := mm) ?_ rfl h x1 x2 x3 (hI.cur (fun f _ z => x4 f z) (fun _ _ => rfl))
    unfold F_S_settle
    simp only [h.xS, gb1_some, gb2_some, hS, hw, reduceCtorEq, if_false, if_true]
  rcases tel h h0 a3 with ⟨hT, hTM⟩ | ⟨t, ht, rfl⟩
  · obtain ⟨σ2, mm2, x1, x2, x3, x4⟩ := M_settle_no h hFM hI hs (by omega) (nI (c / 8)) (nI (c % 8)) a3 (fun g' hg i hi w => by
      have hb := (h4.1 i hi)
      have := M_isTeller_yes h (t := σ 511 i) (by omega) e6
      rw [w.2, hTM] at this
      cases this)
    refine Step.mk0 (r := -1) (σ1 := σ) (τ1 := τ) (mm1 := mm) ?_ rfl h x1 x2 x3 (hI.cur (fun f _ z => x4 f z) (fun _ _ => rfl))
    unfold F_S_settle
    simp only [h.xS, gb1_some, gb2_some, hS, hw, reduceCtorEq, if_false, if_neg (c_ne1 hc), hT, if_true]
  have hT := S_tellerAt_yes h h0 ht
  obtain ⟨σ1, τ1, mm1, f1, f2, r1, F1, cu⟩ := S_findCurrent h Fr.refl hI (q := 2 * s) (c := c) (by omega) hc 100000
  have hP : ∀ j, ofc σ (2 * s) c 100000 j → j < σ 501 0 := fun j hj => hj.1
  have hnum : ∀ u, u < 8 → σ1 25 u < 10000 := fun u hu => (cu.num hI hP hu).1
  have hlk : ∀ g', CurM σ (ofM σ s (nI (c / 8)) (nI (c % 8)) 100000) (σ 501 0) g' → Link σ τ (σ1 25) (τ1 22) g' := fun g' hg => link hI (r := s) (by omega) hc 100000 (by rw [hx_lo (by omega)]; exact cu) hg
  have hh := S_has r1 (t := t) (by omega) (by have := hnum t (by omega); omega)
  obtain ⟨E1, E2, E3, E4'⟩ : σ1 42 = σ 42 ∧ σ1 40 = σ 40 ∧ σ1 41 = σ 41 ∧ τ1 1 = τ 1 := by
    have := F1.all
    exact ⟨this.2.2.2.2.2.2.2.2.2.2.2.2.2.2.2.2.1, this.2.2.2.2.2.2.2.2.2.2.2.2.2.2.1, this.2.2.2.2.2.2.2.2.2.2.2.2.2.2.2.1, this.2.2.2.2.2.2.2.2.2.2.2.2.2.2.2.2.2.2⟩
  have hFM1 : FM σ σ1 := fun g g1 g2 => by
    by_cases z : g = 516
    · rw [z]; exact F1.2.2.1
    · by_cases y : g = 517
      · rw [y]; exact F1.2.2.2
      · exact F1.1 g (by omega) g2 ⟨z, y⟩
  by_cases hnt : σ1 25 t = 0
  · obtain ⟨σ2, mm2, x1, x2, x3, x4⟩ := M_settle_no r1 hFM1 hI hs (by omega) (nI (c / 8)) (nI (c % 8)) (nI t) (fun g' hg i hi w => by
      have hv := (hlk g' hg).val hI hi w.1
      have hb := h4.1 i hi
      have : σ 511 i = t := (nI_eq (by omega) (by omega)).mp w.2
      have : σ 4 i = t := by omega
      rw [this] at hv
      exact hv.1 hnt)
    refine Step.mk0 (r := -1) ?_ f2 r1 x1 x2 x3 ((F1.inv hI).cur (fun f _ z => x4 f z) (fun _ _ => rfl))
    unfold F_S_settle
    simp only [h.xS, gb1_some, gb2_some, hS, hw, reduceCtorEq, if_false, if_neg (c_ne1 hc), hT, h.size (l := 2) (by omega), e11, hS0]
    rw [if_pos (show nI S < (40 : Int32) from nI_lt (b := 40) (by omega) (by omega))]
    simp only [h.xSt (s := s) (by omega), gb1_some, f1, gb2_some, r1.xS, hh, nz, hnt, if_true]
    rw [if_pos (by decide)]
  -- it is settled
  obtain ⟨x, hx⟩ : ∃ x : Int64, x = τ 1 (2 * s) ||| ((1 : Int64) <<< ((nI S).toInt64 &&& 63)) := ⟨_, rfl⟩
  have hbx : ∀ e, bit x e ↔ bit (τ 1 (2 * s)) e ∨ e = S := fun e => by rw [hx]; exact b_take _ (by omega) e
  obtain ⟨mm2, p1, p2, r2⟩ := r1.putB (q := 2 * s) (by rw [E1]; omega) x
  obtain ⟨cc, hcc⟩ : ∃ cc : gE, cc = .inr (6, [.int 0, .int 0, .null]) := ⟨_, rfl⟩
  have hr3 : Rep n0 σ1 (uT τ1 1 (2 * s) x) ad (gN mm2 cc 3) := r2.grow (fun q hq => gN_n (by omega)) (Nat.le_succ _) (fun q hq => by
    have hq' : mm2.2.1 + 1 ≤ q := hq
    rw [gN_n (by omega)]
    exact r2.2.2.2.1 q (by omega)) rfl
  have m1 : (gN mm2 cc 3).1 mm2.2.1 = some (.inr (6, [.int 0, .int 0, .null])) := by rw [← hcc]; exact gN_s _ _ _
  have oc := hr3.oCurrent
  obtain ⟨c25, hc25, g25, rfl, hg25⟩ := hr3.1 1025 0 ⟨Nat.zero_lt_one, fun z => by cases z⟩
  have l17 := (r2.2.2.1 17 0 ⟨Nat.zero_lt_one, fun z => by cases z⟩).2
  have l25 := (r2.2.2.1 1025 0 ⟨Nat.zero_lt_one, fun z => by cases z⟩).2
  obtain ⟨mm3, t1, t2, t3, t4, t5, t6, t7⟩ := Settling_init_eq (w3 := .null) (nI c) (nI t) m1 oc hc25 (show mm2.2.1 < mm2.2.1 + 1 by omega) (show ad 17 0 < mm2.2.1 + 1 by omega) (show ad 1025 0 < mm2.2.1 + 1 by omega)
  rw [show (gN mm2 cc 3).2.1 = mm2.2.1 + 1 from rfl] at t2 t5 t6 t7
  rw [show (gN mm2 cc 3).2.2.1 = mm2.2.2.1 + 3 from rfl] at t3
  rw [show (gN mm2 cc 3).2.2.2 = mm2.2.2.2 from rfl] at t4
  have r3 : Rep n0 σ1 (uT τ1 1 (2 * s) x) ad mm3 := r2.grow (fun q hq => by rw [t7 q (by omega) (by omega), gN_n (by omega)]) (by omega) (fun q hq => by
    rw [t7 q (by omega) (by omega), gN_n (by omega)]
    exact r2.2.2.2.1 q (by omega)) t4
  have hg25' : ∀ j, j < 8 → g25 j = nI (σ1 25 j) := fun j hj => by
    have := hg25 j hj
    rw [show (0 : Nat) * rln 1025 + j = j by omega] at this
    exact this
  obtain ⟨σa, ada, ra, af, a42, a14, a15, a24, a30, aold⟩ := r2.settling r3 (by omega) (S := S) (c := c) (t := t) (w := σ1 25) (by rw [E1, e10, hS0]) (by rw [E2, e11, hS0]) (fun j hj => by rw [E3]; exact e15 j (by omega)) t5 t6 hg25'
  have af40 : σa 40 = σ 40 := (af 40 (by omega) (by omega) (by omega) (by omega)).trans E2
  have af41 : σa 41 = σ 41 := (af 41 (by omega) (by omega) (by omega) (by omega)).trans E3
  obtain ⟨mm4, adb, b1, rb, bad, bs1, bs2, bst⟩ := ra.app (l := 2) (e := S) (by omega) (by
    refine ⟨?_, fun z => by cases z⟩
    show S < σa 42 3
    rw [a42, if_pos rfl]
    omega) (fun j hj => by
    rw [af40, e11, hS0] at hj
    rw [af41, show 2 * 1000 + j = 2000 + j from rfl, e15 j (by omega)]
    refine ⟨?_, fun z => by cases z⟩
    show j < σa 42 3
    rw [a42, if_pos rfl]
    omega) (by rw [af40, e11]; omega) (fun i _ => by rw [af40]; have := hI.len i; omega)
  rw [show rek 2 = 30 from rfl, a30, aold 1 2 (fun w => by unfold nse at w; omega)] at b1
  rw [af40, e11, hS0, show 2 * 1000 + S = 2000 + S from rfl] at rb
  obtain ⟨σc, hσc⟩ : ∃ σc, σc = uS (uS σa 40 2 (S + 1)) 41 (2000 + S) S := ⟨_, rfl⟩
  rw [← hσc] at rb
  have bold : ∀ k i, k ≠ 2 → k ≠ 30 → k ≠ 1024 → adb k i = ad k i := fun k i y1 y2 y3 => by rw [bad k i y1, aold k i (fun w => by unfold nse at w; omega)]
  have kf : ∀ g, g ≠ 42 → g ≠ 40 → g ≠ 41 → g ≠ 14 → g ≠ 15 → g ≠ 24 → σc g = σ1 g := fun g z1 z2 z3 z4 z5 z6 => by rw [hσc, uS_g z3, uS_g z2, af g z1 z4 z5 z6]
  have hFc : FM σ σc := fun g g1 g2 => by rw [kf g (by omega) (by omega) (by omega) (by omega) (by omega) (by omega), hFM1 g g1 g2]
  have k1 : ∀ g, g ≠ 25 → g < 500 → σ1 g = σ g := fun g z1 z2 => F1.1 g z1 (by omega) ⟨by omega, by omega⟩
  obtain ⟨σe, mm5, G, x1, x2, R5, hG, xf, x519, x520, x521, x522, x517, x503⟩ := M_settle_yes rb hFc hI (s := s) (c := c) (t := t) (S := S) hs hS0 (by omega) (fun g' hg => by
    obtain ⟨k, k1, k2, k3, k4⟩ := (hlk g' hg).ex (t := t) (by omega) hnt
    exact ⟨k, k1, k2, by rw [← (h4.1 k k1).1, k3]⟩)
  have lk := hlk G hG
  have hsz := rb.size (l := 2) (by omega)
  rw [bold 1 2 (by omega) (by omega) (by omega), hσc, uS_f (by omega), uS_s] at hsz
  have xB := rb.xS
  rw [bold 0 0 (by omega) (by omega) (by omega), bold 1 2 (by omega) (by omega) (by omega)] at xB
  have m42 : mm4.2.2.2 = mm.2.2.2 := by rw [bst, t4, p2, f2]
  refine ⟨nI (S + 1), mm4, mm5, σe, uT τ1 1 (2 * s) x, adb, ?_, ?_, R5, hI.settle (S := S) (s := s) (c := c) (t := t) (n := σ1 25) (G := G) (x := x) hS0 (by omega) hs hc (by omega) hnum hnt (fun u hu hz => ?_) (fun k hk => lk.1 k hk) hbx ?_ ?_ ?_ ?_ ?_ ?_ ?_ x519 x520 x521 x522 x517 x503 ?_ ?_, bold 0 0 (by omega) (by omega) (by omega), bold 100 0 (by omega) (by omega) (by omega), rb.mid (bold 100 0 (by omega) (by omega) (by omega)), m42, ?_, ?_, by rw [x2, m42]⟩
  · unfold F_S_settle F_Holding_takeSettling
    simp only [h.xS, gb1_some, gb2_some, hS, hw, reduceCtorEq, if_false, if_neg (c_ne1 hc), hT, h.size (l := 2) (by omega), e11, hS0]
    rw [if_pos (show nI S < (40 : Int32) from nI_lt (b := 40) (by omega) (by omega))]
    simp only [h.xSt (s := s) (by omega), gb1_some, f1, gb2_some, r1.xS, hh, nz, if_neg hnt]
    rw [if_neg (show ¬ nI 1 = (0 : Int32) by decide)]
    simp only [r1.xSt (s := s) (by rw [E1]; omega), gb1_some, r1.size (l := 2) (by omega), E2, e11, hS0, gb2_some, r1.xHd (q := 2 * s) (by rw [E1]; omega), E4', ← hx, p1, r2.xS, gnO, ← hcc, hr3.xS, t1, r3.xS, b1, xB, hsz]
  · rw [← bold 100 0 (by omega) (by omega) (by omega)]
    exact x1
  · obtain ⟨k, y1, y2, y3, y4⟩ := lk.2 u hu hz
    exact ⟨k, y1, y2, y3⟩
  · intro g z1 z2 z3 z4 z5 z6 z7 z8 z9 z10 z11 z12 z13 z14
    rw [xf g z8 z9 z10 z11 z12 z13 z14]
    by_cases z : 500 ≤ g
    · exact hFc g z z8
    · rw [kf g z1 z2 z3 z4 z5 z6, k1 g z7 (by omega)]
  · intro i
    rw [xf 42 (by omega) (by omega) (by omega) (by omega) (by omega) (by omega) (by omega), hσc, uS_f (by omega), uS_f (by omega), a42, E1]
  · intro i
    rw [xf 40 (by omega) (by omega) (by omega) (by omega) (by omega) (by omega) (by omega), hσc, uS_f (by omega)]
    by_cases z : i = 2
    · rw [z, uS_s, if_pos rfl]
    · rw [uS_i z, if_neg z, af40]
  · intro i
    rw [xf 41 (by omega) (by omega) (by omega) (by omega) (by omega) (by omega) (by omega), hσc]
    by_cases z : i = 2000 + S
    · rw [z, uS_s, if_pos rfl]
    · rw [uS_i z, if_neg z, uS_f (by omega), af41]
  · intro i
    rw [xf 14 (by omega) (by omega) (by omega) (by omega) (by omega) (by omega) (by omega), hσc, uS_f (by omega), uS_f (by omega), a14, k1 14 (by omega) (by omega)]
  · intro i
    rw [xf 15 (by omega) (by omega) (by omega) (by omega) (by omega) (by omega) (by omega), hσc, uS_f (by omega), uS_f (by omega), a15, k1 15 (by omega) (by omega)]
  · intro e j hj
    rw [xf 24 (by omega) (by omega) (by omega) (by omega) (by omega) (by omega) (by omega), hσc, uS_f (by omega), uS_f (by omega), a24 e j hj, k1 24 (by omega) (by omega)]
  · intro g z1 z2
    rw [uT_g z1, F1.2.1 g z2]
  · intro q
    by_cases z : q = 2 * s
    · rw [z, uT_s, if_pos rfl]
    · rw [uT_i z, if_neg z, E4']
  · have q1 : mm2.2.1 = mm.2.1 := by rw [p2, f2]
    rw [x2]
    omega
  · have q1 : mm2.2.2.1 = mm.2.2.1 := by rw [p2, f2]
    rw [x2]
    omega
end SM
