/-! block -/
section BL
variable {n0 : Nat} {σ σ' σ'' : Nat → Nat → Nat} {τ τ' τ'' : Nat → Nat → Int64} {ad : Nat → Nat → Nat} {mm : gM}
theorem first_loop (h : Rep n0 σ τ ad mm) (h9 : I9 σ) {t n : Nat} (ht : t < σ 42 1) (hn : n < 2 ^ 31) {K1 : Option Nat → Int32 → Int32 → gM → Option (Int32 × gM)} {K0 : gM → Option (Int32 × gM)} (d : Nat) : ∀ (i f : Nat), i + d = σ 11 t → d < f → (∀ j, j < i → σ 21 (t * 6 + j) < n) →
    (∃ j, j < σ 11 t ∧ n ≤ σ 21 (t * 6 + j) ∧ (∀ j', j' < j → σ 21 (t * 6 + j') < n) ∧ L_Blocks_firstFrom_2 K1 K0 f (some (ad 12 t)) (nI n) (nI i) mm = K1 (some (ad 12 t)) (nI n) (nI j) mm) ∨ ((∀ j, j < σ 11 t → σ 21 (t * 6 + j) < n) ∧ L_Blocks_firstFrom_2 K1 K0 f (some (ad 12 t)) (nI n) (nI i) mm = K0 mm) := by
  have h6 := (h9.1 t).2
  induction d with
  | zero =>
    intro i f hi hf ha
    obtain ⟨f, rfl⟩ : ∃ g, f = g + 1 := ⟨f - 1, by omega⟩
    have : i = σ 11 t := by omega
    subst this
    right
    refine ⟨ha, ?_⟩
    rw [L_Blocks_firstFrom_2]
    simp only [h.xTr ht, gb1_some]
    rw [if_pos (nI_le (by omega) (by omega))]
  | succ d ih =>
    intro i f hi hf ha
    obtain ⟨f, rfl⟩ : ∃ g, f = g + 1 := ⟨f - 1, by omega⟩
    obtain ⟨b1, b2, b3, b4, b5⟩ := h9.2.1 t i (by omega)
    rw [L_Blocks_firstFrom_2]
    simp only [h.xTr ht, gb1_some, h.a21 ht (j := i) (by omega), gLet_eq, nI_1]
    rw [if_neg (nI_ge (by omega) (by omega))]
    by_cases z : σ 21 (t * 6 + i) < n
    · rw [if_pos (nI_lt z hn)]
      exact ih (i + 1) f (by omega) (by omega) (fun j hj => by
        by_cases e : j = i
        · subst e; exact z
        · exact ha j (by omega))
    · rw [if_neg (nI_nlt (by omega) (by omega))]
      exact Or.inl ⟨i, by omega, by omega, ha, rfl⟩
theorem S_firstFrom (h : Rep n0 σ τ ad mm) (h9 : I9 σ) {t n : Nat} (ht : t < σ 42 1) (hn : n < 10000) : ∃ x, n ≤ x ∧ x ≤ 10000 ∧ F_Blocks_firstFrom (ad 12 t) (nI n) mm = some (nI x, mm) ∧ ((∃ i, inb σ t x i) ∨ x = 10000) ∧ ∀ m i, n ≤ m → m < x → ¬ inb σ t m i := by
  unfold F_Blocks_firstFrom
  obtain ⟨f, hf, hfe⟩ := gF_big
  rw [hfe]
  have h6 := (h9.1 t).2
  rcases first_loop h h9 ht (n := n) (by omega) (K1 := fun p0 p1 p2 mm => gb1 (gfR 2 0 p0 mm) fun v10 => gb1 (gaI 0 v10 p2 mm) fun v12 => gLet (if p1 < v12 then v12 else p1) fun x14 => some (x14, mm)) (K0 := fun mm => some ((10000 : Int32), mm)) (σ 11 t) 0 f (by omega) (by omega) (fun j hj => by omega) with ⟨j, j1, j2, j3, j4⟩ | ⟨y1, y2⟩
  · obtain ⟨b1, b2, b3, b4, b5⟩ := h9.2.1 t j j1
    refine ⟨max n (σ 20 (t * 6 + j)), by omega, by omega, ?_, Or.inl ⟨j, j1, by omega, by omega⟩, fun m i m1 m2 hm => ?_⟩
    · rw [show (0 : Int32) = nI 0 from rfl, j4]
      simp only [h.xTr ht, gb1_some, h.a20 ht (j := j) (by omega), gLet_eq]
      by_cases z : n < σ 20 (t * 6 + j)
      · rw [if_pos (nI_lt z (by omega)), Nat.max_eq_right (by omega)]
      · rw [if_neg (nI_nlt (by omega) (by omega)), Nat.max_eq_left (by omega)]
    · obtain ⟨i1, i2, i3⟩ := hm
      rcases Nat.lt_trichotomy i j with q | q | q
      · have := j3 i q; omega
      · subst q; omega
      · have := h9.2.2.1 t j i q i1; omega
  · refine ⟨10000, by omega, by omega, ?_, Or.inr rfl, fun m i m1 m2 hm => ?_⟩
    · rw [show (0 : Int32) = nI 0 from rfl, y2]
      rfl
    · obtain ⟨i1, i2, i3⟩ := hm
      have := y1 i i1
      omega
/-- places behind q, up to p, take what stood before them -/
def shf (σ σ' : Nat → Nat → Nat) (t q p : Nat) : Prop := (∀ g, g ≠ 20 → g ≠ 21 → g ≠ 22 → σ' g = σ g) ∧ ∀ g, (g = 20 ∨ g = 21 ∨ g = 22) → ∀ i, σ' g i = if t * 6 + q < i ∧ i ≤ t * 6 + p then σ g (i - 1) else σ g i
theorem add_loop {t x : Nat} {y : Int32} (hx : x < 2 ^ 31) {K : Option Nat → Int32 → Int32 → Int32 → gM → Option (Int32 × gM)} (p : Nat) : ∀ (f : Nat) (σ : Nat → Nat → Nat) (mm : gM), Rep n0 σ τ ad mm → t < σ 42 1 → p < 6 → p < f → (∀ j, j < p → σ 20 (t * 6 + j) < 2 ^ 31) → ∃ (q : Nat) (σ' : Nat → Nat → Nat) (mm' : gM), q ≤ p ∧ (0 < q → σ 20 (t * 6 + (q - 1)) ≤ x) ∧ (∀ j, q ≤ j → j < p → x < σ 20 (t * 6 + j)) ∧ mm'.2 = mm.2 ∧ Rep n0 σ' τ ad mm' ∧ shf σ σ' t q p ∧ L_Blocks_add_25 K f (some (ad 12 t)) (nI x) y (nI p) mm = K (some (ad 12 t)) (nI x) y (nI q) mm' := by
  induction p with
  | zero =>
    intro f σ mm h ht hp hf hb
    obtain ⟨f, rfl⟩ : ∃ g, f = g + 1 := ⟨f - 1, by omega⟩
    refine ⟨0, σ, mm, by omega, fun z => by omega, fun j j1 j2 => by omega, rfl, h, ⟨fun _ _ _ _ => rfl, fun g _ i => by rw [if_neg (by omega)]⟩, ?_⟩
    rw [L_Blocks_add_25, if_pos (by decide)]
  | succ p ih =>
    intro f σ mm h ht hp hf hb
    obtain ⟨f, rfl⟩ : ∃ g, f = g + 1 := ⟨f - 1, by omega⟩
    have b := hb p (by omega)
    by_cases z : σ 20 (t * 6 + p) ≤ x
    · refine ⟨p + 1, σ, mm, by omega, fun _ => z, fun j j1 j2 => by omega, rfl, h, ⟨fun _ _ _ _ => rfl, fun g _ i => by rw [if_neg (by omega)]⟩, ?_⟩
      rw [L_Blocks_add_25, if_neg (nI_nle (by omega) (by omega))]
      simp only [h.xTr ht, gb1_some, nI_pred, h.a20 ht (j := p) (by omega)]
      rw [if_pos (nI_le z hx)]
    · obtain ⟨mm1, a1, b1, r1⟩ := h.w20 ht (j := p + 1) (by omega) (σ 20 (t * 6 + p))
      have ht1 : t < uS σ 20 (t * 6 + (p + 1)) (σ 20 (t * 6 + p)) 42 1 := by rw [uS_f (by omega)]; exact ht
      obtain ⟨mm2, a2, b2, r2⟩ := r1.w21 ht1 (j := p + 1) (by omega) (σ 21 (t * 6 + p))
      have ht2 : t < uS (uS σ 20 (t * 6 + (p + 1)) (σ 20 (t * 6 + p))) 21 (t * 6 + (p + 1)) (σ 21 (t * 6 + p)) 42 1 := by rw [uS_f (by omega)]; exact ht1
      obtain ⟨mm3, a3, b3, r3⟩ := r2.w22 ht2 (j := p + 1) (by omega) (σ 22 (t * 6 + p))
      have ht3 : t < uS (uS (uS σ 20 (t * 6 + (p + 1)) (σ 20 (t * 6 + p))) 21 (t * 6 + (p + 1)) (σ 21 (t * 6 + p))) 22 (t * 6 + (p + 1)) (σ 22 (t * 6 + p)) 42 1 := by rw [uS_f (by omega)]; exact ht2
      have f20 : ∀ j, j ≠ t * 6 + (p + 1) → uS (uS (uS σ 20 (t * 6 + (p + 1)) (σ 20 (t * 6 + p))) 21 (t * 6 + (p + 1)) (σ 21 (t * 6 + p))) 22 (t * 6 + (p + 1)) (σ 22 (t * 6 + p)) 20 j = σ 20 j := fun j hj => by rw [uS_f (by omega), uS_f (by omega), uS_i hj]
      obtain ⟨q, σ4, mm4, q1, q2, q3, q4, q5, q6, q7⟩ := ih f _ mm3 r3 ht3 (by omega) (by omega) (fun j hj => by rw [f20 _ (by omega)]; exact hb j (by omega))
      refine ⟨q, σ4, mm4, by omega, fun w => ?_, fun j j1 j2 => ?_, by rw [q4, b3, b2, b1], q5, ⟨fun g g1 g2 g3 => ?_, fun g hg i => ?_⟩, ?_⟩
      · have := q2 w
        rw [f20 _ (by omega)] at this
        exact this
      · by_cases e : j = p
        · subst e; omega
        · have := q3 j j1 (by omega)
          rw [f20 _ (by omega)] at this
          exact this
      · rw [q6.1 g g1 g2 g3, uS_g g3, uS_g g2, uS_g g1]
      · rw [q6.2 g hg i]
        have key : ∀ i, uS (uS (uS σ 20 (t * 6 + (p + 1)) (σ 20 (t * 6 + p))) 21 (t * 6 + (p + 1)) (σ 21 (t * 6 + p))) 22 (t * 6 + (p + 1)) (σ 22 (t * 6 + p)) g i = if i = t * 6 + (p + 1) then σ g (t * 6 + p) else σ g i := by
          intro i
          rcases hg with rfl | rfl | rfl
          · simp [uS]
          · simp [uS]
          · simp [uS]
        rw [key, key]
        by_cases e : i = t * 6 + (p + 1)
        · subst e
          rw [if_neg (by omega), if_pos rfl, if_pos (by omega)]
          congr 1
        · by_cases w : t * 6 + q < i ∧ i ≤ t * 6 + p
          · rw [if_pos w, if_neg (by omega), if_pos (by omega)]
          · rw [if_neg w, if_neg e, if_neg (by omega)]
      · rw [L_Blocks_add_25, if_neg (nI_nle (by omega) (by omega))]
        have rd1 := r1.a21 ht1 (j := p) (by omega)
        rw [uS_f (by omega)] at rd1
        have rd2 := r2.a22 ht2 (j := p) (by omega)
        rw [uS_f (by omega), uS_f (by omega)] at rd2
        simp only [h.xTr ht, gb1_some, nI_pred, h.a20 ht (j := p) (by omega)]
        rw [if_neg (nI_ge (by omega) b), a1]
        simp only [gb1_some, r1.xTr ht1, rd1, a2, r2.xTr ht2, rd2, a3, gLet_eq, pk_m1]
        exact q7
/-- the new blocks of t -/
def nbl (σ σ' : Nat → Nat → Nat) (t q c g x : Nat) : Prop := ∀ i, σ' g i = if i = t * 6 + q then x else if t * 6 + q < i ∧ i ≤ t * 6 + c then σ g (i - 1) else σ g i
theorem S_badd (h : Rep n0 σ τ ad mm) (h9 : I9 σ) {t x y : Nat} (ht : t < σ 42 1) (hx : 1 ≤ x) (hxy : x ≤ y) (hy : y ≤ 9999) :
    ((σ 11 t = 6 ∨ ∃ m i, x ≤ m ∧ m ≤ y ∧ inb σ t m i) ∧ F_Blocks_add (ad 12 t) (nI x) (nI y) mm = some (0, mm)) ∨ ((σ 11 t < 6 ∧ ∀ m i, x ≤ m → m ≤ y → ¬ inb σ t m i) ∧ ∃ (q : Nat) (σ' : Nat → Nat → Nat) (mm' : gM), q ≤ σ 11 t ∧ (0 < q → σ 20 (t * 6 + (q - 1)) ≤ x) ∧ (∀ j, q ≤ j → j < σ 11 t → x < σ 20 (t * 6 + j)) ∧ mm'.2 = mm.2 ∧ Rep n0 σ' τ ad mm' ∧ (∀ g, g ≠ 20 → g ≠ 21 → g ≠ 22 → g ≠ 11 → σ' g = σ g) ∧ nbl σ σ' t q (σ 11 t) 20 x ∧ nbl σ σ' t q (σ 11 t) 21 y ∧ nbl σ σ' t q (σ 11 t) 22 x ∧ (∀ i, σ' 11 i = if i = t then σ 11 t + 1 else σ 11 i) ∧ F_Blocks_add (ad 12 t) (nI x) (nI y) mm = some (1, mm')) := by
  have h6 := (h9.1 t).2
  obtain ⟨f, hf, hfe⟩ := gF_big
  by_cases z6 : σ 11 t = 6
  · left
    refine ⟨Or.inl z6, ?_⟩
    unfold F_Blocks_add
    simp only [h.xTr ht, gb1_some, z6]
    rw [if_pos (by decide)]
  · obtain ⟨v, v1, v2, v3, v4, v5⟩ := S_firstFrom h h9 ht (n := x) (by omega)
    by_cases z : v ≤ y
    · left
      refine ⟨Or.inr ?_, ?_⟩
      · rcases v4 with ⟨i, hi⟩ | w
        · exact ⟨v, i, v1, z, hi⟩
        · omega
      · unfold F_Blocks_add
        simp only [h.xTr ht, gb1_some]
        rw [if_neg (show ¬ (6 : Int32) ≤ nI (σ 11 t) from nI_ge (b := 6) (by omega) (by omega)), v3, gb2_some, if_neg (nI_nlt (by omega) (by omega))]
    · right
      refine ⟨⟨by omega, fun m i m1 m2 => v5 m i m1 (by omega)⟩, ?_⟩
      obtain ⟨q, σ1, mm1, q1, q2, q3, q4, q5, q6, q7⟩ := add_loop (n0 := n0) (ad := ad) (t := t) (x := x) (y := nI y) (by omega) (K := fun p0 p1 p2 p3 mm => gb1 (gfR 2 0 p0 mm) fun v43 => gb1 (gsI 0 v43 p3 p1 mm) fun mm45 => gb1 (gfR 2 1 p0 mm45) fun v47 => gb1 (gsI 0 v47 p3 p2 mm45) fun mm49 => gb1 (gfR 2 2 p0 mm49) fun v51 => gb1 (gsI 0 v51 p3 p1 mm49) fun mm53 => gb1 (gfI 2 3 p0 mm53) fun v55 => gb1 (gpV 2 3 p0 (.int (v55 + (1 : Int32))) mm53) fun mm57 => some ((1 : Int32), mm57)) (σ 11 t) f σ mm h ht (by omega) (by omega) (fun j hj => by have := h9.2.1 t j hj; omega)
      have ht1 : t < σ1 42 1 := by rw [q6.1 42 (by omega) (by omega) (by omega)]; exact ht
      obtain ⟨mm2, a2, b2, r2⟩ := q5.w20 ht1 (j := q) (by omega) x
      have ht2 : t < uS σ1 20 (t * 6 + q) x 42 1 := by rw [uS_f (by omega)]; exact ht1
      obtain ⟨mm3, a3, b3, r3⟩ := r2.w21 ht2 (j := q) (by omega) y
      have ht3 : t < uS (uS σ1 20 (t * 6 + q) x) 21 (t * 6 + q) y 42 1 := by rw [uS_f (by omega)]; exact ht2
      obtain ⟨mm4, a4, b4, r4⟩ := r3.w22 ht3 (j := q) (by omega) x
      have ht4 : t < uS (uS (uS σ1 20 (t * 6 + q) x) 21 (t * 6 + q) y) 22 (t * 6 + q) x 42 1 := by rw [uS_f (by omega)]; exact ht3
      obtain ⟨mm5, a5, b5, r5⟩ := r4.p11 ht4 (σ 11 t + 1)
      have e11 : uS (uS (uS σ1 20 (t * 6 + q) x) 21 (t * 6 + q) y) 22 (t * 6 + q) x 11 = σ 11 := by rw [uS_g (by omega), uS_g (by omega), uS_g (by omega), q6.1 11 (by omega) (by omega) (by omega)]
      refine ⟨q, _, mm5, q1, q2, q3, by rw [b5, b4, b3, b2, q4], r5, fun g g1 g2 g3 g4 => ?_, fun i => ?_, fun i => ?_, fun i => ?_, fun i => ?_, ?_⟩
      · rw [uS_g g4, uS_g g3, uS_g g2, uS_g g1, q6.1 g g1 g2 g3]
      · rw [uS_f (by omega), uS_f (by omega), uS_f (by omega)]
        have := q6.2 20 (by omega) i
        simp only [uS, true_and]
        rw [this]
      · rw [uS_f (by omega), uS_f (by omega)]
        have := q6.2 21 (by omega) i
        simp only [uS, true_and, if_neg (show ¬ (21 = 20 ∧ i = t * 6 + q) from fun w => by omega)]
        rw [this]
      · rw [uS_f (by omega)]
        have := q6.2 22 (by omega) i
        simp only [uS, true_and, if_neg (show ¬ (22 = 20 ∧ i = t * 6 + q) from fun w => by omega), if_neg (show ¬ (22 = 21 ∧ i = t * 6 + q) from fun w => by omega)]
        rw [this]
      · rw [show ∀ v, uS (uS (uS (uS σ1 20 (t * 6 + q) x) 21 (t * 6 + q) y) 22 (t * 6 + q) x) 11 t v 11 i = if i = t then v else uS (uS (uS σ1 20 (t * 6 + q) x) 21 (t * 6 + q) y) 22 (t * 6 + q) x 11 i from fun v => by simp [uS], e11]
      · unfold F_Blocks_add
        rw [hfe]
        simp only [h.xTr ht, gb1_some]
        rw [if_neg (show ¬ (6 : Int32) ≤ nI (σ 11 t) from nI_ge (b := 6) (by omega) (by omega)), v3, gb2_some, if_pos (nI_lt (by omega) (by omega)), show gfI 2 3 (some (ad 12 t)) mm = some (nI (σ 11 t)) by simp only [h.xTr ht], gb1_some, q7]
        simp only [q5.xTr ht1, r2.xTr ht2, r3.xTr ht3, r4.xTr ht4, gb1_some, a2, a3, a4, e11, nI_1, a5]
end BL
