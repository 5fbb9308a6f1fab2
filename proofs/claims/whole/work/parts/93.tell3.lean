/-! tell -/
section TI
variable {n0 : Nat} {σ σ' : Nat → Nat → Nat} {τ τ' : Nat → Nat → Int64} {ad ad' : Nat → Nat → Nat} {mm mm' : gM}
theorem S_isValue_eq (a : Int64) : F_S_isValue a mm = F_M_isIn a (-1000000000) 1000000000 mm := rfl
theorem isInV (a : Int64) : (∀ mm : gM, F_M_isIn a (-1000000000) 1000000000 mm = some (0, mm)) ∨ (vok a ∧ ∀ mm : gM, F_M_isIn a (-1000000000) 1000000000 mm = some (1, mm)) := by
  unfold F_M_isIn vok
  by_cases c1 : a < -1000000000
  · left
    intro mm
    rw [if_pos c1]
  · by_cases c2 : 1000000000 < a
    · left
      intro mm
      rw [if_neg c1, if_pos c2]
    · right
      refine ⟨⟨Int64.not_lt.mp c1, Int64.not_lt.mp c2⟩, fun mm => ?_⟩
      rw [if_neg c1, if_neg c2]
theorem isIn_yes {lo hi j : Nat} (h1 : lo ≤ j) (h2 : j ≤ hi) (h3 : hi < 2 ^ 31) (mm : gM) : F_M_isIn (nI j).toInt64 (lN lo) (lN hi) mm = some (1, mm) := by
  rw [M_isIn_eq _ (by omega) h3, if_neg]
  rintro (z | z)
  · exact nI_nlt h1 (by omega) z
  · exact nI_nlt h2 (by omega) z
theorem Step.tell (h : Rep n0 σ τ ad mm) (hI : Inv σ τ) (a0 a1 a2 a3 : Int32) (v : Int64) (a5 : Int32) : Step n0 ad mm (F_S_tell (ad 0 0) a0 a1 a2 a3 v a5) (F_M_tell (ad 100 0) a0 a1 a2 a3 v a5) := by
  obtain ⟨h0, h1, h2, h3, h4, h5, h6, h7, h8, h9⟩ := id hI
  obtain ⟨e1, e2, e3, e4, e5, e6, e7, e8, e9, e10, e11, e12, e13, e14, e15⟩ := id h0
  have L0 : (0 : Int64) = lN 0 := rfl
  have L1 : (1 : Int64) = lN 1 := rfl
  have L7 : (7 : Int64) = lN 7 := rfl
  have L15 : (15 : Int64) = lN 15 := rfl
  have L9 : (9999 : Int64) = lN 9999 := rfl
  have LD : (100000 : Int64) = lN 100000 := rfl
  have n1 : ¬ (1 : Int32) = 0 := by decide
  rcases tel h h0 a0 with ⟨hS, hM⟩ | ⟨t, ht, rfl⟩
  · have hcell : ∃ w, ∀ mm : gM, F_S_cellOf a2 a3 mm = some (w, mm) := by
      rcases cel a2 a3 with ⟨w, -⟩ | ⟨c, -, w, -⟩
      · exact ⟨_, w⟩
      · exact ⟨_, w⟩
    obtain ⟨w, hw⟩ := hcell
    refine Step.same (r := -1) h hI ?_ ?_
    · unfold F_S_tell
      simp only [h.xS, gb1_some, gb2_some, hS, hw, if_true]
    · unfold F_M_tell
      simp only [h.xM, gb1_some, gb2_some, hM, gLet_eq, if_true]
  have hS := S_tellerAt_yes h h0 ht
  have hM := M_isTeller_yes h ht e6
  rcases cel a2 a3 with ⟨hw, hno⟩ | ⟨c, hc, hw, rfl, rfl⟩
  · have hcl : F_S_tell (ad 0 0) (nI t) a1 a2 a3 v a5 mm = some (-1, mm) := by
      unfold F_S_tell
      simp only [h.xS, gb1_some, gb2_some, hS, hw, reduceCtorEq, if_false, if_true]
    refine Step.same (r := -1) h hI hcl ?_
    unfold F_M_tell
    rcases isInI mm a1 (lo := 1) (hi := 9999) (by omega) (by omega) with hb | ⟨hb, n, hn1, hn2, rfl⟩
    · simp only [h.xM, gb1_some, gb2_some, hM, gLet_eq, if_neg n1, L1, L9, hb, if_true]
    rcases isInI mm a2 (lo := 0) (hi := 15) (by omega) (by omega) with hq | ⟨hq, th, -, th2, rfl⟩
    · simp only [h.xM, gb1_some, gb2_some, hM, gLet_eq, if_neg n1, L0, L1, L9, L15, hb, hq, if_true]
    rcases isInI mm a3 (lo := 0) (hi := 7) (by omega) (by omega) with hk | ⟨hk, ki, -, ki2, rfl⟩
    · simp only [h.xM, gb1_some, gb2_some, hM, gLet_eq, if_neg n1, L0, L1, L7, L9, L15, hb, hq, hk, if_true]
    exact absurd ⟨rfl, rfl⟩ (hno th ki (by omega) (by omega))
  have q2 := isIn_yes (lo := 0) (hi := 15) (j := c / 8) (by omega) (by omega) (by omega)
  have q3 := isIn_yes (lo := 0) (hi := 7) (j := c % 8) (by omega) (by omega) (by omega)
  have c1 := c_ne1 hc
  rcases isInI mm a1 (lo := 1) (hi := 9999) (by omega) (by omega) with hb | ⟨hb, n, hn1, hn2, rfl⟩
  · refine Step.same (r := -1) h hI ?_ ?_
    · unfold F_S_tell
      simp only [h.xS, gb1_some, gb2_some, hS, hw, reduceCtorEq, if_false, if_neg c1, S_isNumber_eq, L1, L9, hb, if_true]
    · unfold F_M_tell
      simp only [h.xM, gb1_some, gb2_some, hM, gLet_eq, if_neg n1, L1, L9, hb, if_true]
  rcases isInV v with hv | ⟨vv, hv⟩
  · refine Step.same (r := -1) h hI ?_ ?_
    · unfold F_S_tell
      simp only [h.xS, gb1_some, gb2_some, hS, hw, reduceCtorEq, if_false, if_neg c1, S_isNumber_eq, S_isValue_eq, L1, L9, hb, if_neg n1, hv, if_true]
    · unfold F_M_tell
      simp only [h.xM, gb1_some, gb2_some, hM, gLet_eq, if_neg n1, L0, L1, L7, L9, L15, hb, q2, q3, hv, if_true]
  rcases isInI mm a5 (lo := 0) (hi := 100000) (by omega) (by omega) with hd | ⟨hd, d, -, hd2, rfl⟩
  · refine Step.same (r := -1) h hI ?_ ?_
    · unfold F_S_tell
      simp only [h.xS, gb1_some, gb2_some, hS, hw, reduceCtorEq, if_false, if_neg c1, S_isNumber_eq, S_isValue_eq, S_isDay_eq, L0, L1, L9, LD, hb, if_neg n1, hv, hd, if_true]
    · unfold F_M_tell
      simp only [h.xM, gb1_some, gb2_some, hM, gLet_eq, if_neg n1, L0, L1, L7, L9, L15, LD, hb, q2, q3, hv, hd, if_true]
  rcases S_toldWith h hI ht (w := n) (by omega) with ⟨k, k1, k2, k3, hT⟩ | ⟨hno, hT⟩
  · -- it was told before
    have hTM : F_M_told (ad 100 0) (nI t) (nI n) mm = some (nI k, mm) := by
      rcases M_tld h hI ⟨rfl, rfl, rfl⟩ (t := t) (n := n) (by omega) (by omega) with ⟨-, k', y1, y2, y3, y4⟩ | ⟨y1, -⟩
      · rw [y4, h4.2 k k' k1 y1 (by omega) (by omega)]
      · exact absurd ⟨k, k1, k2, k3⟩ y1
    obtain ⟨b1, b2, b3, b4, b5, b6, b7, b8, b9, b10, b11, b12⟩ := h4.1 k k1
    have hsay : F_Telling_says (ad 10 k) (nI c) v (nI d) mm = some (if σ 7 k = c ∧ τ 0 k = v ∧ σ 8 k = d then 1 else 0, mm) := by
      unfold F_Telling_says
      simp only [h.xTl (k := k) (by omega), gb1_some, nI_eq (show σ 7 k < 2 ^ 31 by omega) (show c < 2 ^ 31 by omega), nI_eq (show σ 8 k < 2 ^ 31 by omega) (show d < 2 ^ 31 by omega)]
      by_cases z1 : σ 7 k = c
      · by_cases z2 : τ 0 k = v
        · by_cases z3 : σ 8 k = d
          · rw [if_pos z1, if_pos z2, if_pos z3, if_pos ⟨z1, z2, z3⟩]
          · rw [if_pos z1, if_pos z2, if_neg z3, if_neg (fun w => z3 w.2.2)]
        · rw [if_pos z1, if_neg z2, if_neg (fun w => z2 w.2.1)]
      · rw [if_neg z1, if_neg (fun w => z1 w.1)]
    refine Step.same (r := if σ 7 k = c ∧ τ 0 k = v ∧ σ 8 k = d then 0 else -1) h hI ?_ ?_
    · unfold F_S_tell
      simp only [h.xS, gb1_some, gb2_some, hS, hw, reduceCtorEq, if_false, if_neg c1, S_isNumber_eq, S_isValue_eq, S_isDay_eq, L0, L1, L9, LD, hb, if_neg n1, hv, hd, h.xTr (t := t) (by omega), hT, h.xTl (k := k) (by omega), hsay]
      by_cases z : σ 7 k = c ∧ τ 0 k = v ∧ σ 8 k = d
      · rw [if_pos z, if_pos z, if_neg n1]
      · rw [if_neg z, if_neg z, if_pos rfl]
    · unfold F_M_tell
      simp only [h.xM, gb1_some, gb2_some, hM, gLet_eq, if_neg n1, L0, L1, L7, L9, L15, LD, hb, q2, q3, hv, hd, hTM, if_neg (nI_pos (show k < 2 ^ 31 by omega)), h.a513 (j := k) (by omega), h.a514 (j := k) (by omega), h.a515 (j := k) (by omega), h.b510 (j := k) (by omega), nI_eq (show σ 513 k < 2 ^ 31 by omega) (show c / 8 < 2 ^ 31 by omega), nI_eq (show σ 514 k < 2 ^ 31 by omega) (show c % 8 < 2 ^ 31 by omega), nI_eq (show σ 515 k < 2 ^ 31 by omega) (show d < 2 ^ 31 by omega)]
      by_cases z1 : σ 513 k = c / 8
      · rw [if_pos z1]
        by_cases z2 : σ 514 k = c % 8
        · rw [if_pos z2]
          have y : σ 7 k = c := by omega
          by_cases z3 : τ 510 k = v
          · rw [if_pos z3]
            by_cases z4 : σ 515 k = d
            · rw [if_pos z4, if_pos ⟨y, by rw [b11]; exact z3, by omega⟩]
            · rw [if_neg z4, if_neg (fun w => z4 (by omega))]
          · rw [if_neg z3, if_neg (fun w => z3 (by rw [← b11]; exact w.2.1))]
        · rw [if_neg z2, if_neg (fun w => z2 (by omega))]
      · rw [if_neg z1, if_neg (fun w => z1 (by omega))]
  have hTM : F_M_told (ad 100 0) (nI t) (nI n) mm = some (-1, mm) := by
    rcases M_tld h hI ⟨rfl, rfl, rfl⟩ (t := t) (n := n) (by omega) (by omega) with ⟨y, -⟩ | ⟨-, y⟩
    · exact absurd y hno
    · exact y
  have nn : (-1 : Int32) < 0 := by decide
  have hcl := (h1.1 t)
  by_cases z10 : σ 10 t = 0
  · by_cases zN : σ 501 0 = 200
    · refine Step.same (r := -1) h hI ?_ ?_
      · unfold F_S_tell
        simp only [h.xS, gb1_some, gb2_some, hS, hw, reduceCtorEq, if_false, if_neg c1, S_isNumber_eq, S_isValue_eq, S_isDay_eq, L0, L1, L9, LD, hb, if_neg n1, hv, hd, h.xTr (t := t) (by omega), hT, if_true, z10, e1, zN, show nI 0 = (0 : Int32) from rfl]
        rw [if_neg (by decide)]
      · unfold F_M_tell
        simp only [h.xM, gb1_some, gb2_some, hM, gLet_eq, if_neg n1, L0, L1, L7, L9, L15, LD, hb, q2, q3, hv, hd, hTM, if_pos nn, h.a510 (j := t) (by omega), ← hcl.1, z10, show nI 0 = (0 : Int32) from rfl, if_true, zN]
        rw [if_pos (by decide)]
    · obtain ⟨N, hN⟩ : ∃ N, σ 501 0 = N := ⟨_, rfl⟩
      have hl40 : σ 40 (3 + t) ≤ 200 := hI.len _
      -- the new cell
      obtain ⟨e, he⟩ : ∃ e : gE, e = .inr (7, [.int 0, .int 0, .int 0, .int 0, .long 0, .int 0, .null]) := ⟨_, rfl⟩
      have hr1 : Rep n0 σ τ ad (gN mm e 7) := h.grow (fun q hq => gN_n (by omega)) (Nat.le_succ _) (fun q hq => by
        have hq' : mm.2.1 + 1 ≤ q := hq
        rw [gN_n (by omega)]
        exact h.2.2.2.1 q (by omega)) rfl
      obtain ⟨g, g1, g2⟩ := hr1.oNew
      have hg := gaR_eq (j := c) g1 hc (by omega) (by omega)
      rw [g2 c hc] at hg
      have m1 : (gN mm e 7).1 mm.2.1 = some (.inr (7, [.int 0, .int 0, .int 0, .int 0, .long 0, .int 0, .null])) := by rw [← he]; exact gN_s _ _ _
      obtain ⟨mm2, t1, t2, t3, t4⟩ := Telling_init_eq (nI t) (nI (σ 40 (3 + t))) (nI n) (nI c) v (nI d) (rop (σ 16 c) (ad 10)) m1
      have m21 : mm2.2.1 = mm.2.1 + 1 := by rw [t2]; rfl
      have m22 : mm2.2.2.1 = mm.2.2.1 + 7 := by rw [t2]; rfl
      have m23 : mm2.2.2.2 = mm.2.2.2 := by rw [t2]; rfl
      have r2 : Rep n0 σ τ ad mm2 := h.grow (fun q hq => by rw [t4 q (by omega), gN_n (by omega)]) (by omega) (fun q hq => by
        rw [t4 q (by omega), gN_n (by omega)]
        exact h.2.2.2.1 q (by omega)) m23
      obtain ⟨σa, ada, τa, ra, af, a42, a4, a5, a6, a7, a8, a9, at', a0', aN, aold⟩ := h.telling hI r2 m23 (by omega) hc t3
      rw [hN] at a42 a4 a5 a6 a7 a8 a9 a0' aN aold
      obtain ⟨p, pp1, pp2, pp3, pp4⟩ := S_placeOf r2 hI ht (w := n) (by omega)
      have af40 := af 40 (by omega) (by omega)
      have af41 := af 41 (by omega) (by omega)
      obtain ⟨mm3, adb, σb, b1, rb, bf, b40, b41, b41', bad, bs1, bs2, bst⟩ := ra.ins (l := 3 + t) (e := N) (p := p) (by rw [a42, if_neg (by omega)]; omega) (by
        rw [rek_told]
        refine ⟨?_, fun z => by omega⟩
        show N < σa 42 0
        rw [a42, if_pos rfl]
        omega) (fun j hj => by
        rw [af40] at hj
        rw [rek_told, af41]
        refine ⟨?_, fun z => by omega⟩
        show _ < σa 42 0
        rw [a42, if_pos rfl]
        have := (h5.2.2.2.2.1 t j hj).1
        omega) (by rw [af40]; omega) (by rw [af40]; exact pp1) (fun i _ => by rw [af40]; have := hI.len i; omega)
      rw [rek_told, aN, aold 1 (3 + t) (by omega)] at b1
      rw [af40] at b40 b41'
      rw [af41] at b41 b41'
      have bold : ∀ k i, k ≠ 2 → k ≠ 10 → adb k i = ad k i := fun k i y1 y2 => by rw [bad k i y1, aold k i (fun w => y2 w.1)]
      have b42 : ∀ i, σb 42 i = if i = 0 then N + 1 else σ 42 i := fun i => by rw [bf 42 (by omega) (by omega), a42]
      obtain ⟨mm4, w1, w2, rw4⟩ := rb.w16 (c := c) (e := N) hc (by rw [b42, if_pos rfl]; omega)
      rw [bold 3 0 (by omega) (by omega), bad 10 N (by omega), aN] at w1
      obtain ⟨mm5, p1, p2, rp⟩ := rw4.p1 (N + 1)
      rw [bold 0 0 (by omega) (by omega)] at p1
      have xW := rw4.xS
      have xB := rb.xS
      rw [bold 0 0 (by omega) (by omega)] at xW xB
      rw [bold 3 0 (by omega) (by omega)] at xB
      -- the state when the class is through
      obtain ⟨σc, hσc⟩ : ∃ σc, σc = uS (uS σb 16 c (N + 1)) 1 0 (N + 1) := ⟨_, rfl⟩
      rw [← hσc] at rp
      have kf : ∀ g, g ≠ 42 → ¬ (4 ≤ g ∧ g ≤ 9) → g ≠ 40 → g ≠ 41 → g ≠ 16 → g ≠ 1 → σc g = σ g := fun g z1 z2 z3 z4 z5 z6 => by rw [hσc, uS_g z6, uS_g z5, bf g z3 z4, af g z1 z2]
      have k500 := kf 500 (by omega) (by omega) (by omega) (by omega) (by omega) (by omega)
      have k501 := kf 501 (by omega) (by omega) (by omega) (by omega) (by omega) (by omega)
      have k511 := kf 511 (by omega) (by omega) (by omega) (by omega) (by omega) (by omega)
      have k512 := kf 512 (by omega) (by omega) (by omega) (by omega) (by omega) (by omega)
      have k510 := kf 510 (by omega) (by omega) (by omega) (by omega) (by omega) (by omega)
      have cf : ∀ g, g ≠ 40 → g ≠ 41 → g ≠ 16 → g ≠ 1 → σc g = σa g := fun g z1 z2 z3 z4 => by rw [hσc, uS_g z4, uS_g z3, bf g z1 z2]
      have hTM' : F_M_told (adb 100 0) (nI t) (nI n) mm5 = some (-1, mm5) := by
        rcases M_tld rp hI ⟨k501, k511, k512⟩ (t := t) (n := n) (by omega) (by omega) with ⟨y, -⟩ | ⟨-, y⟩
        · exact absurd y hno
        · exact y
      have hM' := M_isTeller_yes rp (t := t) (by rw [k500]; exact ht) (by rw [k500]; exact e6)
      have hA := rp.a510 (j := t) (by omega)
      rw [k510, ← hcl.1, z10] at hA
      obtain ⟨M1, x1, y1, R1⟩ := rp.w511 (j := N) (by omega) t
      obtain ⟨M2, x2, y2, R2⟩ := R1.w512 (j := N) (by omega) n
      obtain ⟨M3, x3, y3, R3⟩ := R2.w513 (j := N) (by omega) (c / 8)
      obtain ⟨M4, x4, y4, R4⟩ := R3.w514 (j := N) (by omega) (c % 8)
      obtain ⟨M5, x5, y5, R5⟩ := R4.v510 (j := N) (by omega) v
      obtain ⟨M6, x6, y6, R6⟩ := R5.w515 (j := N) (by omega) d
      obtain ⟨M7, x7, y7, R7⟩ := R6.p501 (N + 1)
      have ey : M7.2 = mm5.2 := by rw [y7, y6, y5, y4, y3, y2, y1]
      have e5 : mm5.2 = mm3.2 := by rw [p2, w2]
      refine ⟨1, mm5, M7, _, _, adb, ?_, ?_, R7, hI.tell (N := N) (t := t) (n := n) (c := c) (d := d) (p := p) (v := v) hN (by omega) ht ⟨hn1, hn2⟩ hc hd2 vv hno ?_ ?_ ?_ ?_ ?_ ?_ ?_ ?_ ?_ ?_ ?_ pp1 pp2 pp3 ?_ ?_ ?_ ?_ ?_ ?_ ?_ ?_ ?_ ?_ ?_, bold 0 0 (by omega) (by omega), bold 100 0 (by omega) (by omega), rp.mid (bold 100 0 (by omega) (by omega)), by rw [e5, bst, m23], by rw [ey, e5]; omega, by rw [ey, e5]; omega, by rw [ey, e5, bst, m23]⟩
      · unfold F_S_tell F_Teller_keep
        simp only [h.xS, gb1_some, gb2_some, hS, hw, reduceCtorEq, if_false, if_neg c1, S_isNumber_eq, S_isValue_eq, S_isDay_eq, L0, L1, L9, LD, hb, if_neg n1, hv, hd, h.xTr (t := t) (by omega), hT, if_true, z10, e1, hN, show nI 0 = (0 : Int32) from rfl]
        rw [if_pos (show nI N < (200 : Int32) from nI_lt (b := 200) (by omega) (by omega))]
        simp only [gnO, ← L0, ← he, gb1_some, gb2_some, hr1.xTr (t := t) (by omega), hr1.size (l := 3 + t) (by omega), hr1.xS, hg, t1, r2.xTr (t := t) (by omega), gfI_eq t3 (k := 2) rfl, pp4, b1, xB, w1, xW]
        rw [show uS σb 16 c (N + 1) 1 0 = N by rw [uS_f (by omega), bf 1 (by omega) (by omega), af 1 (by omega) (by omega), e1, hN]]
        simp only [nI_1, p1, gb1_some]
      · rw [← bold 100 0 (by omega) (by omega)]
        unfold F_M_tell
        simp only [rp.xM, gb1_some, gb2_some, hM', gLet_eq, if_neg n1, L0, L1, L7, L9, L15, LD, hb, q2, q3, hv, hd, hTM', if_pos nn, hA, show nI 0 = (0 : Int32) from rfl, if_true, k501, hN]
        rw [if_neg (show ¬ nI N = (200 : Int32) from fun z => zN (by rw [hN]; exact (nI_eq (b := 200) (by omega) (by omega)).mp z))]
        simp only [x1, R1.xM, uS_f (show (501 : Nat) ≠ 511 by omega), k501, hN, gb1_some, x2, R2.xM, uS_f (show (501 : Nat) ≠ 512 by omega), x3, R3.xM, uS_f (show (501 : Nat) ≠ 513 by omega), x4, R4.xM, uS_f (show (501 : Nat) ≠ 514 by omega), x5, R5.xM, x6, R6.xM, uS_f (show (501 : Nat) ≠ 515 by omega), nI_1, x7]
      · intro g z1 z2 z3 z4 z5 z6 z7 z8
        rw [uS_g z8, uS_g (by omega), uS_g (by omega), uS_g (by omega), uS_g (by omega), uS_g (by omega), kf g z1 z2 z3 z4 z5 z6]
      · intro i
        rw [uS_f (by omega), uS_f (by omega), uS_f (by omega), uS_f (by omega), uS_f (by omega), uS_f (by omega), cf 42 (by omega) (by omega) (by omega) (by omega), a42]
      · intro i
        rw [uS_f (by omega), uS_f (by omega), uS_f (by omega), uS_f (by omega), uS_f (by omega), uS_f (by omega), cf 4 (by omega) (by omega) (by omega) (by omega), a4]
      · intro i
        rw [uS_f (by omega), uS_f (by omega), uS_f (by omega), uS_f (by omega), uS_f (by omega), uS_f (by omega), cf 5 (by omega) (by omega) (by omega) (by omega), a5]
      · intro i
        rw [uS_f (by omega), uS_f (by omega), uS_f (by omega), uS_f (by omega), uS_f (by omega), uS_f (by omega), cf 6 (by omega) (by omega) (by omega) (by omega), a6]
      · intro i
        rw [uS_f (by omega), uS_f (by omega), uS_f (by omega), uS_f (by omega), uS_f (by omega), uS_f (by omega), cf 7 (by omega) (by omega) (by omega) (by omega), a7]
      · intro i
        rw [uS_f (by omega), uS_f (by omega), uS_f (by omega), uS_f (by omega), uS_f (by omega), uS_f (by omega), cf 8 (by omega) (by omega) (by omega) (by omega), a8]
      · intro i
        rw [uS_f (by omega), uS_f (by omega), uS_f (by omega), uS_f (by omega), uS_f (by omega), uS_f (by omega), cf 9 (by omega) (by omega) (by omega) (by omega), a9]
      · intro i
        rw [uS_f (by omega), uS_f (by omega), uS_f (by omega), uS_f (by omega), uS_f (by omega), uS_f (by omega), hσc, uS_f (by omega), uS_f (by omega), b40]
      · intro i hi
        rw [uS_f (by omega), uS_f (by omega), uS_f (by omega), uS_f (by omega), uS_f (by omega), uS_f (by omega), hσc, uS_f (by omega), uS_f (by omega), b41 i hi]
      · intro i hi
        rw [uS_f (by omega), uS_f (by omega), uS_f (by omega), uS_f (by omega), uS_f (by omega), uS_f (by omega), hσc, uS_f (by omega), uS_f (by omega), b41' i hi]
      · intro i
        rw [uS_f (by omega), uS_f (by omega), uS_f (by omega), uS_f (by omega), uS_f (by omega), uS_f (by omega), hσc, uS_f (by omega)]
        by_cases z : i = c
        · rw [z, uS_s, if_pos rfl]
        · rw [uS_i z, if_neg z, bf 16 (by omega) (by omega), af 16 (by omega) (by omega)]
      · rw [uS_f (by omega), uS_f (by omega), uS_f (by omega), uS_f (by omega), uS_f (by omega), uS_f (by omega), hσc, uS_s]
      · rw [uS_s]
      · intro i
        rw [uS_f (by omega), uS_f (by omega), uS_f (by omega), uS_f (by omega), uS_f (by omega)]
        by_cases z : i = N
        · rw [z, uS_s, if_pos rfl]
        · rw [uS_i z, if_neg z, k511]
      · intro i
        rw [uS_f (by omega), uS_f (by omega), uS_f (by omega), uS_f (by omega)]
        by_cases z : i = N
        · rw [z, uS_s, if_pos rfl]
        · rw [uS_i z, if_neg z, uS_f (by omega), k512]
      · intro i
        rw [uS_f (by omega), uS_f (by omega), uS_f (by omega)]
        by_cases z : i = N
        · rw [z, uS_s, if_pos rfl]
        · rw [uS_i z, if_neg z, uS_f (by omega), uS_f (by omega), kf 513 (by omega) (by omega) (by omega) (by omega) (by omega) (by omega)]
      · intro i
        rw [uS_f (by omega), uS_f (by omega)]
        by_cases z : i = N
        · rw [z, uS_s, if_pos rfl]
        · rw [uS_i z, if_neg z, uS_f (by omega), uS_f (by omega), uS_f (by omega), kf 514 (by omega) (by omega) (by omega) (by omega) (by omega) (by omega)]
      · intro i
        rw [uS_f (by omega)]
        by_cases z : i = N
        · rw [z, uS_s, if_pos rfl]
        · rw [uS_i z, if_neg z, uS_f (by omega), uS_f (by omega), uS_f (by omega), uS_f (by omega), kf 515 (by omega) (by omega) (by omega) (by omega) (by omega) (by omega)]
      · intro g z1 z2
        rw [uT_g z2, at' g z1]
      · intro i
        rw [uT_f (by omega), a0']
      · intro i
        by_cases z : i = N
        · rw [z, uT_s, if_pos rfl]
        · rw [uT_i z, if_neg z, at' 510 (by omega)]
  · refine Step.same (r := -1) h hI ?_ ?_
    · unfold F_S_tell
      simp only [h.xS, gb1_some, gb2_some, hS, hw, reduceCtorEq, if_false, if_neg c1, S_isNumber_eq, S_isValue_eq, S_isDay_eq, L0, L1, L9, LD, hb, if_neg n1, hv, hd, h.xTr (t := t) (by omega), hT, if_true, if_neg (show ¬ nI (σ 10 t) = 0 from fun w => z10 ((nI_z (by omega)).mp w))]
    · unfold F_M_tell
      simp only [h.xM, gb1_some, gb2_some, hM, gLet_eq, if_neg n1, L0, L1, L7, L9, L15, LD, hb, q2, q3, hv, hd, hTM, if_pos nn, h.a510 (j := t) (by omega), ← hcl.1, if_neg (show ¬ nI (σ 10 t) = 0 from fun w => z10 ((nI_z (by omega)).mp w))]
end TI
