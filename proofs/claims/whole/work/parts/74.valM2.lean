section VN
variable {n0 : Nat} {σ σ' σ'' : Nat → Nat → Nat} {τ τ' τ'' : Nat → Nat → Int64} {ad : Nat → Nat → Nat} {mm : gM}
/-- first and same, over the first k -/
def fs (τ : Nat → Nat → Int64) (g : Nat → Nat) (k : Nat) (first : Int64) (same : Int32) : Prop := (first = -9223372036854775808 ∧ same = 1 ∧ ∀ i, i < k → g i = 0) ∨ (same = 1 ∧ ∃ i, i < k ∧ g i = 1 ∧ first = τ 510 i ∧ ∀ j, j < k → g j = 1 → τ 510 j = τ 510 i) ∨ (same = 0 ∧ ∃ i j, i < k ∧ j < k ∧ g i = 1 ∧ g j = 1 ∧ τ 510 i ≠ τ 510 j)
theorem v27 (h : Rep n0 σ' τ' ad mm) (hF : Fr σ σ τ σ' τ') (hI : Inv σ τ) (hg : ∀ k, k < σ 501 0 → σ' 529 k ≤ 1) {p1 p2 p3 : Int32} {K : Option Nat → Int32 → Int32 → Int32 → Int64 → Int32 → gM → Option (Int64 × gM)} (d : Nat) : ∀ (k f : Nat) (first : Int64) (same : Int32), k + d = σ 501 0 → d < f → fs τ (σ' 529) k first same → ∃ (first' : Int64) (same' : Int32), fs τ (σ' 529) (σ 501 0) first' same' ∧ L_M_valueOf_27 K f (some (ad 100 0)) p1 p2 p3 first same (nI k) mm = K (some (ad 100 0)) p1 p2 p3 first' same' mm := by
  have e3 := hI.1.2.2.1
  have vk : ∀ k, k < σ 501 0 → τ 510 k ≠ -9223372036854775808 := by
    intro k hk
    obtain ⟨b1, b2, b3, b4, b5, b6, b7, b8, b9, b10, b11, b12⟩ := hI.2.2.2.2.1.1 k hk
    rw [← b11]
    exact v_nov b12
  induction d with
  | zero =>
    intro k f first same hk hf hs
    obtain ⟨f, rfl⟩ : ∃ g, f = g + 1 := ⟨f - 1, by omega⟩
    have : k = σ 501 0 := by omega
    subst this
    refine ⟨first, same, hs, ?_⟩
    rw [L_M_valueOf_27]
    simp only [h.xM, gb1_some, hF.allM]
    rw [if_pos (nI_le (by omega) (by omega))]
  | succ d ih =>
    intro k f first same hk hf hs
    obtain ⟨f, rfl⟩ : ∃ g, f = g + 1 := ⟨f - 1, by omega⟩
    have b := hg k (by omega)
    rw [L_M_valueOf_27]
    simp only [h.xM, gb1_some, hF.allM, h.a529 (j := k) (by omega), h.b510 (j := k) (by omega), gLet_eq, nI_1]
    rw [if_neg (nI_ge (by omega) (by omega))]
    by_cases z : σ' 529 k = 0
    · rw [if_pos (by rw [z]; rfl)]
      refine ih (k + 1) f first same (by omega) (by omega) ?_
      rcases hs with ⟨a1, a2, a3⟩ | ⟨a1, i, a2, a3, a4, a5⟩ | ⟨a1, i, j, a2, a3, a4, a5, a6⟩
      · refine Or.inl ⟨a1, a2, fun i hi => ?_⟩
        by_cases w : i = k
        · subst w; exact z
        · exact a3 i (by omega)
      · refine Or.inr (Or.inl ⟨a1, i, by omega, a3, a4, fun j hj hj1 => ?_⟩)
        by_cases w : j = k
        · subst w; omega
        · exact a5 j (by omega) hj1
      · exact Or.inr (Or.inr ⟨a1, i, j, by omega, by omega, a4, a5, a6⟩)
    · have g1 : σ' 529 k = 1 := by omega
      rw [if_neg (show ¬ nI (σ' 529 k) = 0 by rw [g1]; decide)]
      rcases hs with ⟨a1, a2, a3⟩ | ⟨a1, i, a2, a3, a4, a5⟩ | ⟨a1, i, j, a2, a3, a4, a5, a6⟩
      · rw [if_neg (by rw [a2]; decide), if_pos a1]
        refine ih (k + 1) f (τ 510 k) 1 (by omega) (by omega) (Or.inr (Or.inl ⟨rfl, k, by omega, g1, rfl, fun j hj hj1 => ?_⟩))
        by_cases w : j = k
        · rw [w]
        · have := a3 j (by omega); omega
      · rw [if_neg (by rw [a1]; decide), if_neg (by rw [a4]; exact vk i (by omega))]
        by_cases w : first = τ 510 k
        · rw [if_pos w]
          refine ih (k + 1) f (τ 510 k) 1 (by omega) (by omega) (Or.inr (Or.inl ⟨rfl, i, by omega, a3, by rw [← w]; exact a4, fun j hj hj1 => ?_⟩))
          by_cases u : j = k
          · rw [u, ← w]; exact a4
          · exact a5 j (by omega) hj1
        · rw [if_neg w]
          exact ih (k + 1) f (τ 510 k) 0 (by omega) (by omega) (Or.inr (Or.inr ⟨rfl, i, k, by omega, by omega, a3, g1, by rw [← a4]; exact w⟩))
      · rw [if_pos a1]
        exact ih (k + 1) f (τ 510 k) 0 (by omega) (by omega) (Or.inr (Or.inr ⟨rfl, i, j, by omega, by omega, a4, a5, a6⟩))
theorem v135 (h : Rep n0 σ' τ' ad mm) (hF : Fr σ σ τ σ' τ') (hI : Inv σ τ) (hg : ∀ k, k < σ 501 0 → σ' 529 k ≤ 1) {e i0 : Nat} (he : e < σ 503 0) (hi0 : i0 < σ 501 0) (h1 : σ' 529 i0 = 1 ∧ σ 511 i0 = σ 521 e) (hu : ∀ i, i < σ 501 0 → σ' 529 i = 1 → σ 511 i = σ 521 e → i = i0) {p1 p2 p3 : Int32} {K : Option Nat → Int32 → Int32 → Int32 → Int64 → Int32 → gM → Option (Int64 × gM)} (d : Nat) : ∀ (k f : Nat) (acc : Int64), k + d = σ 501 0 → d < f → (i0 < k → acc = τ 510 i0) → L_M_valueOf_135 K f (some (ad 100 0)) p1 p2 p3 acc (nI e) (nI k) mm = K (some (ad 100 0)) p1 p2 p3 (τ 510 i0) (nI e) mm := by
  have e3 := hI.1.2.2.1
  have e12 := hI.1.2.2.2.2.2.2.2.2.2.2.2.1
  have h521 : σ 521 e < 8 := by
    obtain ⟨y1, y2, y3, y4, y5, y6, y7, y8⟩ := hI.2.2.2.2.2.2.2.2.1.2.2.2.1 e he
    omega
  induction d with
  | zero =>
    intro k f acc hk hf ha
    obtain ⟨f, rfl⟩ : ∃ g, f = g + 1 := ⟨f - 1, by omega⟩
    rw [L_M_valueOf_135]
    simp only [h.xM, gb1_some, hF.allM]
    rw [if_pos (nI_le (by omega) (by omega)), ha (by omega)]
  | succ d ih =>
    intro k f acc hk hf ha
    obtain ⟨f, rfl⟩ : ∃ g, f = g + 1 := ⟨f - 1, by omega⟩
    have b := hg k (by omega)
    have mb := hI.mb (k := k) (by omega)
    rw [L_M_valueOf_135]
    simp only [h.xM, gb1_some, hF.allM, h.a529 (j := k) (by omega), h.b510 (j := k) (by omega), h.a511 (j := k) (by omega), h.a521 (j := e) (by omega), gLet_eq, nI_1]
    rw [if_neg (nI_ge (by omega) (by omega))]
    by_cases z : σ' 529 k = 0
    · rw [if_pos (by rw [z]; rfl)]
      refine ih (k + 1) f acc (by omega) (by omega) (fun w => ha ?_)
      have : i0 ≠ k := fun q => by subst q; omega
      omega
    · rw [if_neg (show ¬ nI (σ' 529 k) = 0 by rw [show σ' 529 k = 1 by omega]; decide)]
      by_cases y : σ 511 k = σ 521 e
      · rw [if_pos (by rw [y])]
        have : k = i0 := hu k (by omega) (by omega) y
        subst this
        exact ih (k + 1) f _ (by omega) (by omega) (fun _ => rfl)
      · rw [if_neg (fun w => y ((nI_eq (by omega) (by omega)).mp w))]
        refine ih (k + 1) f acc (by omega) (by omega) (fun w => ha ?_)
        have : i0 ≠ k := fun q => by subst q; exact y h1.2
        omega
theorem v111 (h : Rep n0 σ' τ' ad mm) (hF : Fr σ σ τ σ' τ') (hI : Inv σ τ) {r c : Nat} (hr : r < 24) (hc : c < 128) {n : Nat → Nat} {v : Nat → Int64} (hl : Link σ τ n v (σ' 529)) (hn : ∀ t, t < 8 → n t < 10000) {K : Int64 → gM → Option (Int64 × gM)} (d : Nat) : ∀ (e f : Nat) (acc : Int64), e + d = σ 503 0 → d < f → ((∃ e0, e0 < e ∧ mde σ τ n (hx r) c e0 ∧ (∀ e', e0 < e' → e' < e → ¬ mde σ τ n (hx r) c e') ∧ acc = v (σ 15 e0)) ∨ ((∀ e', e' < e → ¬ mde σ τ n (hx r) c e') ∧ acc = -9223372036854775808)) →
    ∃ R, ((∃ e0, e0 < σ 503 0 ∧ mde σ τ n (hx r) c e0 ∧ (∀ e', e0 < e' → e' < σ 503 0 → ¬ mde σ τ n (hx r) c e') ∧ R = v (σ 15 e0)) ∨ ((∀ e', e' < σ 503 0 → ¬ mde σ τ n (hx r) c e') ∧ R = -9223372036854775808)) ∧ L_M_valueOf_111 K f (some (ad 100 0)) (nI r) (nI (c / 8)) (nI (c % 8)) acc (nI e) mm = K R mm := by
  have e3 := hI.1.2.2.1
  have e12 := hI.1.2.2.2.2.2.2.2.2.2.2.2.1
  have hg : ∀ k, k < σ 501 0 → σ' 529 k ≤ 1 := fun k hk => (hl.1 k hk).1
  induction d with
  | zero =>
    intro e f acc he hf ha
    obtain ⟨f, rfl⟩ : ∃ g, f = g + 1 := ⟨f - 1, by omega⟩
    have : e = σ 503 0 := by omega
    subst this
    refine ⟨acc, ha, ?_⟩
    rw [L_M_valueOf_111]
    simp only [h.xM, gb1_some, hF.allM]
    rw [if_pos (nI_le (by omega) (by omega))]
  | succ d ih =>
    intro e f acc he hf ha
    obtain ⟨f, rfl⟩ : ∃ g, f = g + 1 := ⟨f - 1, by omega⟩
    have ci := cnt_iff hI hr hc (e := e) (by omega) hl hn
    rw [L_M_valueOf_111]
    simp only [h.xM, gb1_some, hF.allM]
    rw [if_neg (nI_ge (by omega) (by omega))]
    rcases M_counts h hF hI hg hr (e := e) (by omega) (nI (c / 8)) (nI (c % 8)) with ⟨z1, z2⟩ | ⟨z1, z2⟩
    · have hm := ci.mp z1
      obtain ⟨u1, u2, u3, u4, u5, u6, u7, u8⟩ := hI.2.2.2.2.2.2.2.2.1.2.2.2.1 e (by omega)
      have hnz : n (σ 15 e) ≠ 0 := by rw [← hm.2.2 _ u5]; exact u6
      obtain ⟨k, k1, k2, k3, k4⟩ := hl.ex u5 hnz
      have mk := hI.mb k1
      obtain ⟨F, hFb, hFe⟩ := gF_big
      rw [z2, hFe]
      simp only [gb2_some, if_neg (show ¬ (1 : Int32) = 0 by decide)]
      have q := v135 h hF hI hg (e := e) (i0 := k) (by omega) k1 ⟨k2, by omega⟩ (fun i i1 i2 i3 => by
        have mi := hI.mb i1
        have a1 := ((hl.1 i i1).2).mp i2
        have a2 := ((hl.1 k k1).2).mp k2
        have e4 : σ 4 i = σ 4 k := by omega
        exact hI.2.2.2.2.1.2 i k i1 k1 e4 (by rw [← a1, ← a2, e4])) (p1 := nI r) (p2 := nI (c / 8)) (p3 := nI (c % 8)) (K := fun p0 p1 p2 p3 p8 p10 mm => gLet (p10 + 1) fun x63 => L_M_valueOf_111 K f p0 p1 p2 p3 p8 x63 mm) (σ 501 0) 0 F acc (by omega) (by omega) (fun w => by omega)
      rw [show nI 0 = (0 : Int32) from rfl] at q
      rw [q]
      simp only [gLet_eq, nI_1]
      refine ih (e + 1) f (τ 510 k) (by omega) (by omega) (Or.inl ⟨e, by omega, hm, fun e' i1 i2 => by omega, ?_⟩)
      obtain ⟨b1, b2, b3, b4, b5, b6, b7, b8, b9, b10, b11, b12⟩ := hI.2.2.2.2.1.1 k k1
      rw [← b11]
      exact k4
    · have hm : ¬ mde σ τ n (hx r) c e := fun w => z1 (ci.mpr w)
      rw [z2]
      simp only [gb2_some, if_true, gLet_eq, nI_1]
      refine ih (e + 1) f acc (by omega) (by omega) ?_
      rcases ha with ⟨e0, a1, a2, a3, a4⟩ | ⟨a1, a2⟩
      · refine Or.inl ⟨e0, by omega, a2, fun e' i1 i2 => ?_, a4⟩
        by_cases w : e' = e
        · subst w; exact hm
        · exact a3 e' i1 (by omega)
      · refine Or.inr ⟨fun e' i2 => ?_, a2⟩
        by_cases w : e' = e
        · subst w; exact hm
        · exact a1 e' (by omega)
theorem M_valueOf (h : Rep n0 σ' τ' ad mm) (hF : Fr σ σ τ σ' τ') (hI : Inv σ τ) {r c : Nat} (hr : r < 24) (hc : c < 128) (D : Int32) {n : Nat → Nat} {v : Nat → Int64} (hn : IsCur σ τ (ofc σ (hx r) c D) n v) : ∃ (σ'' : Nat → Nat → Nat) (mm' : gM) (R : Int64), F_M_valueOf (ad 100 0) (nI r) (nI (c / 8)) (nI (c % 8)) D mm = some (R, mm') ∧ mm'.2 = mm.2 ∧ Rep n0 σ'' τ' ad mm' ∧ Fr σ σ τ σ'' τ' ∧ Val σ τ n v (hx r) c R := by
  obtain ⟨σ2, mm2, a2, b2, r2, F2, c2⟩ := M_findCurrent h hF hI hr (nI (c / 8)) (nI (c % 8)) D
  have e3 := hI.1.2.2.1
  have e12 := hI.1.2.2.2.2.2.2.2.2.2.2.2.1
  have hl := link hI hr hc D hn c2
  have hnum : ∀ t, t < 8 → n t < 10000 := fun t ht => (hn.num hI (fun j hj => hj.1) ht).1
  have hsm : sm (σ2 529) (σ 501 0) ≤ σ 501 0 := sm_le (fun i hi => (c2 i hi).1)
  obtain ⟨f, hf, hfe⟩ := gF_big
  by_cases z : sm (σ2 529) (σ 501 0) = 0
  · refine ⟨σ2, mm2, -9223372036854775808, ?_, b2, r2, F2, Or.inl ⟨(hl.none hI).mp z, rfl⟩⟩
    unfold F_M_valueOf
    simp only [h.xM, gb1_some, a2, gb2_some, z]
    rw [if_pos (show nI 0 = (0 : Int32) from rfl)]
  · have run : F_M_valueOf (ad 100 0) (nI r) (nI (c / 8)) (nI (c % 8)) D mm = L_M_valueOf_27 (fun p0 p1 p2 p3 p5 p7 mm => if p7 = 0 then L_M_valueOf_111 (fun p8 mm => some (p8, mm)) f p0 p1 p2 p3 (-9223372036854775808 : Int64) (0 : Int32) mm else some (p5, mm)) f (some (ad 100 0)) (nI r) (nI (c / 8)) (nI (c % 8)) (-9223372036854775808 : Int64) (1 : Int32) (0 : Int32) mm2 := by
      unfold F_M_valueOf
      rw [hfe]
      simp only [h.xM, gb1_some, a2, gb2_some]
      rw [if_neg (nI_ne0 (by omega) (by omega))]
    obtain ⟨first, same, f1, f2⟩ := v27 r2 F2 hI (fun k hk => (c2 k hk).1) (p1 := nI r) (p2 := nI (c / 8)) (p3 := nI (c % 8)) (K := fun p0 p1 p2 p3 p5 p7 mm => if p7 = 0 then L_M_valueOf_111 (fun p8 mm => some (p8, mm)) f p0 p1 p2 p3 (-9223372036854775808 : Int64) (0 : Int32) mm else some (p5, mm)) (σ 501 0) 0 f (-9223372036854775808) 1 (by omega) (by omega) (Or.inl ⟨rfl, rfl, fun i hi => by omega⟩)
    rw [show nI 0 = (0 : Int32) from rfl] at f2
    rw [f2] at run
    have v510 : ∀ k, k < σ 501 0 → τ 0 k = τ 510 k := fun k hk => by
      obtain ⟨b1, b2, b3, b4, b5, b6, b7, b8, b9, b10, b11, b12⟩ := hI.2.2.2.2.1.1 k hk
      exact b11
    rcases f1 with ⟨-, -, a3⟩ | ⟨a1, i, i1, i2, i3, i4⟩ | ⟨a1, i, j, i1, j1, i2, j2, ij⟩
    · exact absurd (sm_zero.mpr a3) z
    · rw [if_neg (by rw [a1]; decide)] at run
      refine ⟨σ2, mm2, first, run, b2, r2, F2, Or.inr (Or.inl ?_)⟩
      obtain ⟨q1, q2, q3⟩ := hl.val hI i1 i2
      refine ⟨σ 4 i, q3, q1, by rw [i3, ← v510 i i1, q2], fun t' ht' hz => ?_⟩
      obtain ⟨k, k1, k2, k3, k4⟩ := hl.ex ht' hz
      rw [← k4, ← q2, v510 k k1, v510 i i1]
      exact i4 k k1 k2
    · rw [if_pos a1] at run
      obtain ⟨R, R1, R2⟩ := v111 r2 F2 hI hr hc hl hnum (K := fun p8 mm => some (p8, mm)) (σ 503 0) 0 f (-9223372036854775808) (by omega) (by omega) (Or.inr ⟨fun e' he' => by omega, rfl⟩)
      rw [show nI 0 = (0 : Int32) from rfl] at R2
      rw [R2] at run
      obtain ⟨p1, p2, p3⟩ := hl.val hI i1 i2
      obtain ⟨q1, q2, q3⟩ := hl.val hI j1 j2
      exact ⟨σ2, mm2, R, run, b2, r2, F2, Or.inr (Or.inr ⟨⟨σ 4 i, σ 4 j, p3, q3, p1, q1, by rw [← p2, ← q2, v510 i i1, v510 j j1]; exact ij⟩, R1⟩)⟩
/-- no such cell -/
theorem M_valueOf_no (h : Rep n0 σ' τ' ad mm) (hF : Fr σ σ τ σ' τ') (hI : Inv σ τ) {r : Nat} (hr : r < 24) (th ki D : Int32) (hno : ∀ k, k < σ 501 0 → ¬ (nI (σ 513 k) = th ∧ nI (σ 514 k) = ki)) : ∃ (σ'' : Nat → Nat → Nat) (mm' : gM), F_M_valueOf (ad 100 0) (nI r) th ki D mm = some (-9223372036854775808, mm') ∧ mm'.2 = mm.2 ∧ Rep n0 σ'' τ' ad mm' ∧ Fr σ σ τ σ'' τ' := by
  obtain ⟨σ2, mm2, a2, b2, r2, F2, c2⟩ := M_findCurrent h hF hI hr th ki D
  have z : sm (σ2 529) (σ 501 0) = 0 := sm_zero.mpr (fun i hi => by
    obtain ⟨q1, q2⟩ := c2 i hi
    have : σ2 529 i ≠ 1 := fun w => by
      have := (q2.mp w).1
      exact hno i hi ⟨this.2.2.1, this.2.2.2.1⟩
    omega)
  refine ⟨σ2, mm2, ?_, b2, r2, F2⟩
  unfold F_M_valueOf
  simp only [h.xM, gb1_some, a2, gb2_some, z]
  rw [if_pos (show nI 0 = (0 : Int32) from rfl)]
/-- there are current ones -/
theorem cur_ex (hI : Inv σ τ) {P : Nat → Prop} (hP : ∀ j, P j → j < σ 501 0) : ∃ (n : Nat → Nat) (v : Nat → Int64), IsCur σ τ P n v := by
  have key : ∀ t, ∃ x : Nat × Int64, (x.1 = 0 ∧ ∀ k, P k → σ 4 k ≠ t) ∨ (∃ k, P k ∧ σ 4 k = t ∧ x.1 = σ 6 k ∧ x.2 = τ 0 k ∧ ∀ j, P j → σ 4 j = t → σ 6 j ≤ σ 6 k) := by
    intro t
    have mx : ∀ m, (∀ k, k < m → P k → σ 4 k ≠ t) ∨ (∃ k, k < m ∧ P k ∧ σ 4 k = t ∧ ∀ j, j < m → P j → σ 4 j = t → σ 6 j ≤ σ 6 k) := by
      intro m
      induction m with
      | zero => exact Or.inl (fun k hk => by omega)
      | succ m ih =>
        by_cases hm : P m ∧ σ 4 m = t
        · right
          rcases ih with a | ⟨k, a1, a2, a3, a4⟩
          · refine ⟨m, by omega, hm.1, hm.2, fun j hj j1 j2 => ?_⟩
            by_cases w : j = m
            · rw [w]; exact Nat.le_refl _
            · exact absurd j2 (a j (by omega) j1)
          · rcases Nat.lt_or_ge (σ 6 k) (σ 6 m) with w | w
            · refine ⟨m, by omega, hm.1, hm.2, fun j hj j1 j2 => ?_⟩
              by_cases u : j = m
              · rw [u]; exact Nat.le_refl _
              · have := a4 j (by omega) j1 j2; omega
            · refine ⟨k, by omega, a2, a3, fun j hj j1 j2 => ?_⟩
              by_cases u : j = m
              · rw [u]; exact w
              · exact a4 j (by omega) j1 j2
        · rcases ih with a | ⟨k, a1, a2, a3, a4⟩
          · refine Or.inl (fun k hk k1 k2 => ?_)
            by_cases w : k = m
            · subst w; exact hm ⟨k1, k2⟩
            · exact a k (by omega) k1 k2
          · refine Or.inr ⟨k, by omega, a2, a3, fun j hj j1 j2 => ?_⟩
            by_cases w : j = m
            · subst w; exact absurd ⟨j1, j2⟩ hm
            · exact a4 j (by omega) j1 j2
    rcases mx (σ 501 0) with a | ⟨k, a1, a2, a3, a4⟩
    · exact ⟨(0, 0), Or.inl ⟨rfl, fun k hk => a k (hP k hk) hk⟩⟩
    · exact ⟨(σ 6 k, τ 0 k), Or.inr ⟨k, a2, a3, rfl, rfl, fun j j1 j2 => a4 j (hP j j1) j1 j2⟩⟩
  exact ⟨fun t => (Classical.choose (key t)).1, fun t => (Classical.choose (key t)).2, fun t _ => Classical.choose_spec (key t)⟩
theorem M_isConflict (h : Rep n0 σ' τ' ad mm) (hF : Fr σ σ τ σ' τ') (hI : Inv σ τ) {r c : Nat} (hr : r < 24) (hc : c < 128) : ∃ (σ'' : Nat → Nat → Nat) (mm' : gM) (b : Nat), F_M_isConflict (ad 100 0) (nI r) (nI (c / 8)) (nI (c % 8)) mm = some (nI b, mm') ∧ mm'.2 = mm.2 ∧ Rep n0 σ'' τ' ad mm' ∧ Fr σ σ τ σ'' τ' ∧ b ≤ 1 ∧ (b = 1 ↔ Conf σ τ (hx r) c) := by
  obtain ⟨n, v, hn⟩ := cur_ex hI (P := ofc σ (hx r) c 100000) (fun j hj => hj.1)
  obtain ⟨σ2, mm2, R, a2, b2, r2, F2, v2⟩ := M_valueOf h hF hI hr hc 100000 hn
  have cf := Conf.iff hI hn v2
  have e3 := hI.1.2.2.1
  by_cases z : R = -9223372036854775808
  · obtain ⟨σ3, mm3, a3, b3, r3, F3, c3⟩ := M_findCurrent r2 F2 hI hr (nI (c / 8)) (nI (c % 8)) 100000
    have hl := link hI hr hc 100000 hn c3
    have hsm : sm (σ3 529) (σ 501 0) ≤ σ 501 0 := sm_le (fun i hi => (c3 i hi).1)
    by_cases y : sm (σ3 529) (σ 501 0) = 0
    · refine ⟨σ3, mm3, 0, ?_, by rw [b3, b2], r3, F3, by omega, ?_⟩
      · unfold F_M_isConflict
        simp only [h.xM, gb1_some, a2, gb2_some, if_pos z, r2.xM, a3, y]
        rw [if_pos (by decide)]
        rfl
      · rw [cf]
        refine ⟨fun w => by omega, ?_⟩
        rintro ⟨-, t, t1, t2⟩
        exact absurd ((hl.none hI).mp y t t1) t2
    · refine ⟨σ3, mm3, 1, ?_, by rw [b3, b2], r3, F3, by omega, ?_⟩
      · unfold F_M_isConflict
        simp only [h.xM, gb1_some, a2, gb2_some, if_pos z, r2.xM, a3]
        rw [if_neg (nI_nle (by omega) (by omega))]
        rfl
      · rw [cf]
        refine ⟨fun _ => ⟨z, Classical.byContradiction (fun w => y ((hl.none hI).mpr (fun t ht => Classical.byContradiction (fun u => w ⟨t, ht, u⟩))))⟩, fun _ => rfl⟩
  · refine ⟨σ2, mm2, 0, ?_, b2, r2, F2, by omega, ?_⟩
    · unfold F_M_isConflict
      simp only [h.xM, gb1_some, a2, gb2_some, if_neg z]
      rfl
    · rw [cf]
      refine ⟨fun w => by omega, fun w => absurd w.1 z⟩
end VN
