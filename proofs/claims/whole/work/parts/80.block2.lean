section BK
variable {n0 : Nat} {σ σ' σ'' : Nat → Nat → Nat} {τ τ' τ'' : Nat → Nat → Int64} {ad : Nat → Nat → Nat} {mm : gM}
theorem Inv.g9 (h : Inv σ τ) (n : I9 σ') (e : ∀ f, f ≠ 11 → f ≠ 20 → f ≠ 21 → f ≠ 22 → f ≠ 524 → f ≠ 525 → f ≠ 526 → f ≠ 527 → σ' f = σ f) : Inv σ' τ := by
  obtain ⟨h0, h1, h2, h3, h4, h5, h6, h7, h8, h9⟩ := h
  exact ⟨h0.of (fun f hf => e f (by omega) (by omega) (by omega) (by omega) (by omega) (by omega) (by omega) (by omega)), h1.of (fun f hf => e f (by omega) (by omega) (by omega) (by omega) (by omega) (by omega) (by omega) (by omega)) (fun _ _ => rfl), h2.of (fun f hf => e f (by omega) (by omega) (by omega) (by omega) (by omega) (by omega) (by omega) (by omega)), h3.of (fun f hf => e f (by omega) (by omega) (by omega) (by omega) (by omega) (by omega) (by omega) (by omega)), h4.of (fun f hf => e f (by omega) (by omega) (by omega) (by omega) (by omega) (by omega) (by omega) (by omega)) (fun _ _ => rfl), h5.of (fun f hf => e f (by omega) (by omega) (by omega) (by omega) (by omega) (by omega) (by omega) (by omega)), h6.of (fun f hf => e f (by omega) (by omega) (by omega) (by omega) (by omega) (by omega) (by omega) (by omega)), h7.of (fun f hf => e f (by omega) (by omega) (by omega) (by omega) (by omega) (by omega) (by omega) (by omega)), h8.of (fun f hf => e f (by omega) (by omega) (by omega) (by omega) (by omega) (by omega) (by omega) (by omega)) rfl, n⟩
theorem I9.block (h9 : I9 σ) {t x y q : Nat} (hx : 1 ≤ x) (hxy : x ≤ y) (hy : y ≤ 9999) (htT : t < σ 500 0) (n500 : σ' 500 = σ 500) (hc : σ 11 t < 6) (hno : ∀ m i, x ≤ m → m ≤ y → ¬ inb σ t m i) (q1 : q ≤ σ 11 t) (q2 : 0 < q → σ 20 (t * 6 + (q - 1)) ≤ x) (q3 : ∀ j, q ≤ j → j < σ 11 t → x < σ 20 (t * 6 + j))
    (n20 : nbl σ σ' t q (σ 11 t) 20 x) (n21 : nbl σ σ' t q (σ 11 t) 21 y) (n22 : nbl σ σ' t q (σ 11 t) 22 x) (n11 : ∀ i, σ' 11 i = if i = t then σ 11 t + 1 else σ 11 i) (n524 : ∀ i, σ' 524 i = if i = t then σ 11 t + 1 else σ 524 i) (n525 : ∀ i, σ' 525 i = if i = t * 6 + σ 11 t then x else σ 525 i) (n526 : ∀ i, σ' 526 i = if i = t * 6 + σ 11 t then y else σ 526 i) (n527 : σ' 527 = σ 527) (n501 : σ' 501 = σ 501) (n4 : σ' 4 = σ 4) (n6 : σ' 6 = σ 6) : I9 σ' := by
  obtain ⟨b1, b2, b3, b4, b5, b6, b7, b8⟩ := h9
  have c6 := fun u => (b1 u).2
  have ce := fun u => (b1 u).1
  -- places of other tellers
  have oth : ∀ g z, nbl σ σ' t q (σ 11 t) g z → ∀ u i, u ≠ t → i < 6 → σ' g (u * 6 + i) = σ g (u * 6 + i) := by
    intro g z hn u i hu hi
    rw [hn, if_neg (by omega), if_neg (by omega)]
  have lo : ∀ g z, nbl σ σ' t q (σ 11 t) g z → ∀ i, i < q → σ' g (t * 6 + i) = σ g (t * 6 + i) := by
    intro g z hn i hi
    rw [hn, if_neg (by omega), if_neg (by omega)]
  have at' : ∀ g z, nbl σ σ' t q (σ 11 t) g z → σ' g (t * 6 + q) = z := by
    intro g z hn
    rw [hn, if_pos rfl]
  have up : ∀ g z, nbl σ σ' t q (σ 11 t) g z → ∀ i, q ≤ i → i < σ 11 t → σ' g (t * 6 + (i + 1)) = σ g (t * 6 + i) := by
    intro g z hn i h1 h2
    rw [hn, if_neg (by omega), if_pos (by omega)]
    congr 1
  have below : ∀ i, i < q → σ 21 (t * 6 + i) < x := by
    intro i hi
    obtain ⟨d1, d2, d3, d4, d5⟩ := b2 t i (by omega)
    have hf : σ 20 (t * 6 + i) ≤ x := by
      have := q2 (by omega)
      by_cases e : i = q - 1
      · rw [e]; exact this
      · have w := b3 t i (q - 1) (by omega) (by omega)
        omega
    rcases Nat.lt_or_ge (σ 21 (t * 6 + i)) x with w | w
    · exact w
    · exact absurd ⟨by omega, hf, w⟩ (hno x i (Nat.le_refl _) hxy)
  have above : ∀ i, q ≤ i → i < σ 11 t → y < σ 20 (t * 6 + i) := by
    intro i h1 h2
    have := q3 i h1 h2
    obtain ⟨d1, d2, d3, d4, d5⟩ := b2 t i h2
    rcases Nat.lt_or_ge y (σ 20 (t * 6 + i)) with w | w
    · exact w
    · exact absurd ⟨h2, Nat.le_refl _, d2⟩ (hno (σ 20 (t * 6 + i)) i (by omega) w)
  -- blocks, old and new
  have inbO : ∀ u n i, u ≠ t → (inb σ' u n i ↔ inb σ u n i) := by
    intro u n i hu
    unfold inb
    rw [n11, if_neg hu]
    constructor
    · rintro ⟨a1, a2, a3⟩
      have := c6 u
      rw [oth 20 x n20 u i hu (by omega)] at a2
      rw [oth 21 y n21 u i hu (by omega)] at a3
      exact ⟨a1, a2, a3⟩
    · rintro ⟨a1, a2, a3⟩
      have := c6 u
      rw [oth 20 x n20 u i hu (by omega), oth 21 y n21 u i hu (by omega)]
      exact ⟨a1, a2, a3⟩
  have inbT : ∀ n i, inb σ' t n i ↔ (i < q ∧ inb σ t n i) ∨ (i = q ∧ x ≤ n ∧ n ≤ y) ∨ (∃ j, i = j + 1 ∧ q ≤ j ∧ inb σ t n j) := by
    intro n i
    unfold inb
    rw [n11, if_pos rfl]
    constructor
    · rintro ⟨a1, a2, a3⟩
      rcases Nat.lt_trichotomy i q with w | w | w
      · rw [lo 20 x n20 i w] at a2
        rw [lo 21 y n21 i w] at a3
        exact Or.inl ⟨w, by omega, a2, a3⟩
      · subst w
        rw [at' 20 x n20] at a2
        rw [at' 21 y n21] at a3
        exact Or.inr (Or.inl ⟨rfl, a2, a3⟩)
      · obtain ⟨j, rfl⟩ : ∃ j, i = j + 1 := ⟨i - 1, by omega⟩
        rw [up 20 x n20 j (by omega) (by omega)] at a2
        rw [up 21 y n21 j (by omega) (by omega)] at a3
        exact Or.inr (Or.inr ⟨j, rfl, by omega, by omega, a2, a3⟩)
    · rintro (⟨w, a1, a2, a3⟩ | ⟨rfl, a2, a3⟩ | ⟨j, rfl, w, a1, a2, a3⟩)
      · rw [lo 20 x n20 i w, lo 21 y n21 i w]
        exact ⟨by omega, a2, a3⟩
      · rw [at' 20 x n20, at' 21 y n21]
        exact ⟨by omega, a2, a3⟩
      · rw [up 20 x n20 j w a1, up 21 y n21 j w a1]
        exact ⟨by omega, a2, a3⟩
  have inMO : ∀ u n, u ≠ t → (inM σ' u n ↔ inM σ u n) := by
    intro u n hu
    unfold inM
    rw [n524, if_neg hu]
    have cu := c6 u
    have cu2 := ce u
    constructor
    · rintro ⟨b, a1, a2, a3⟩
      rw [n525, if_neg (by omega)] at a2
      rw [n526, if_neg (by omega)] at a3
      exact ⟨b, a1, a2, a3⟩
    · rintro ⟨b, a1, a2, a3⟩
      refine ⟨b, a1, ?_, ?_⟩
      · rw [n525, if_neg (by omega)]; exact a2
      · rw [n526, if_neg (by omega)]; exact a3
  have inMT : ∀ n, inM σ' t n ↔ inM σ t n ∨ (x ≤ n ∧ n ≤ y) := by
    intro n
    unfold inM
    rw [n524, if_pos rfl]
    have cu2 := ce t
    constructor
    · rintro ⟨b, a1, a2, a3⟩
      by_cases e : b = σ 11 t
      · subst e
        rw [n525, if_pos rfl] at a2
        rw [n526, if_pos rfl] at a3
        exact Or.inr ⟨a2, a3⟩
      · rw [n525, if_neg (by omega)] at a2
        rw [n526, if_neg (by omega)] at a3
        exact Or.inl ⟨b, by omega, a2, a3⟩
    · rintro (⟨b, a1, a2, a3⟩ | ⟨a2, a3⟩)
      · refine ⟨b, by omega, ?_, ?_⟩
        · rw [n525, if_neg (by omega)]; exact a2
        · rw [n526, if_neg (by omega)]; exact a3
      · refine ⟨σ 11 t, by omega, ?_, ?_⟩
        · rw [n525, if_pos rfl]; exact a2
        · rw [n526, if_pos rfl]; exact a3
  have tl : ∀ u n, tld σ' u n ↔ tld σ u n := by
    intro u n
    unfold tld
    rw [n501, n4, n6]
  refine ⟨fun u => ?_, fun u i hi => ?_, fun u i j hij hj => ?_, fun u b hb => ?_, fun u n => ?_, fun u n hn => ?_, fun u n i hn hi => ?_, fun u n hn hi => ?_⟩
  · rw [n11, n524, n500]
    split
    · omega
    · exact b1 u
  · rw [n11] at hi
    by_cases hu : u = t
    · subst hu
      rw [if_pos rfl] at hi
      rcases Nat.lt_trichotomy i q with w | w | w
      · rw [lo 20 x n20 i w, lo 21 y n21 i w, lo 22 x n22 i w]
        exact b2 u i (by omega)
      · subst w
        rw [at' 20 x n20, at' 21 y n21, at' 22 x n22]
        omega
      · obtain ⟨j, rfl⟩ : ∃ j, i = j + 1 := ⟨i - 1, by omega⟩
        rw [up 20 x n20 j (by omega) (by omega), up 21 y n21 j (by omega) (by omega), up 22 x n22 j (by omega) (by omega)]
        exact b2 u j (by omega)
    · rw [if_neg hu] at hi
      have := c6 u
      rw [oth 20 x n20 u i hu (by omega), oth 21 y n21 u i hu (by omega), oth 22 x n22 u i hu (by omega)]
      exact b2 u i hi
  · rw [n11] at hj
    by_cases hu : u = t
    · subst hu
      rw [if_pos rfl] at hj
      rcases Nat.lt_trichotomy j q with w | w | w
      · rw [lo 21 y n21 i (by omega), lo 20 x n20 j w]
        exact b3 u i j hij (by omega)
      · subst w
        rw [lo 21 y n21 i (by omega), at' 20 x n20]
        exact below i hij
      · obtain ⟨j, rfl⟩ : ∃ k, j = k + 1 := ⟨j - 1, by omega⟩
        rw [up 20 x n20 j (by omega) (by omega)]
        rcases Nat.lt_trichotomy i q with v | v | v
        · rw [lo 21 y n21 i v]
          exact b3 u i j (by omega) (by omega)
        · subst v
          rw [at' 21 y n21]
          exact above j (by omega) (by omega)
        · obtain ⟨i, rfl⟩ : ∃ k, i = k + 1 := ⟨i - 1, by omega⟩
          rw [up 21 y n21 i (by omega) (by omega)]
          exact b3 u i j (by omega) (by omega)
    · rw [if_neg hu] at hj
      have := c6 u
      rw [oth 21 y n21 u i hu (by omega), oth 20 x n20 u j hu (by omega)]
      exact b3 u i j hij hj
  · rw [n524] at hb
    rw [n525, n526]
    have cu2 := ce u
    have cu := c6 u
    by_cases e : u * 6 + b = t * 6 + σ 11 t
    · rw [if_pos e, if_pos e]
      omega
    · rw [if_neg e, if_neg e]
      by_cases hu : u = t
      · subst hu
        rw [if_pos rfl] at hb
        exact b4 u b (by omega)
      · rw [if_neg hu] at hb
        exact b4 u b hb
  · by_cases hu : u = t
    · subst hu
      rw [inMT, b5]
      constructor
      · rintro (⟨i, hi⟩ | w)
        · rcases Nat.lt_or_ge i q with v | v
          · exact ⟨i, (inbT n i).mpr (Or.inl ⟨v, hi⟩)⟩
          · exact ⟨i + 1, (inbT n (i + 1)).mpr (Or.inr (Or.inr ⟨i, rfl, v, hi⟩))⟩
        · exact ⟨q, (inbT n q).mpr (Or.inr (Or.inl ⟨rfl, w⟩))⟩
      · rintro ⟨i, hi⟩
        rcases (inbT n i).mp hi with ⟨_, w⟩ | ⟨_, w⟩ | ⟨j, _, _, w⟩
        · exact Or.inl ⟨i, w⟩
        · exact Or.inr w
        · exact Or.inl ⟨j, w⟩
    · rw [inMO u n hu, b5]
      constructor
      · rintro ⟨i, hi⟩
        exact ⟨i, (inbO u n i hu).mpr hi⟩
      · rintro ⟨i, hi⟩
        exact ⟨i, (inbO u n i hu).mp hi⟩
  · rw [n527]
    exact b6 u n hn
  · rw [n527, tl]
    by_cases hu : u = t
    · subst hu
      rcases (inbT n i).mp hi with ⟨v, w⟩ | ⟨rfl, w⟩ | ⟨j, rfl, v, w⟩
      · rw [lo 22 x n22 i v]
        exact b7 u n i hn w
      · rw [at' 22 x n22]
        refine ⟨fun g1 => ?_, fun z => by omega⟩
        have : ¬ inM σ u n := fun z => by
          obtain ⟨i', hi'⟩ := (b5 u n).mp z
          exact hno n i' w.1 w.2 hi'
        have := b8 u n hn this
        omega
      · rw [up 22 x n22 j v w.1]
        exact b7 u n j hn w
    · have w := (inbO u n i hu).mp hi
      have := c6 u
      have := w.1
      rw [oth 22 x n22 u i hu (by omega)]
      exact b7 u n i hn w
  · rw [n527]
    by_cases hu : u = t
    · subst hu
      exact b8 u n hn (fun z => hi ((inMT n).mpr (Or.inl z)))
    · exact b8 u n hn (fun z => hi ((inMO u n hu).mpr z))
theorem mblock_loop (h : Rep n0 σ τ ad mm) {t x y : Nat} (ht : t < 8) (hy : y ≤ 9999) (h6 : σ 524 t ≤ 6) (hb : ∀ b, b < σ 524 t → σ 525 (t * 6 + b) < 2 ^ 31 ∧ σ 526 (t * 6 + b) < 2 ^ 31) {K0 : gM → Option (Int32 × gM)} {K1 : Option Nat → Int32 → Int32 → Int32 → gM → Option (Int32 × gM)} (d : Nat) : ∀ (n f : Nat), n + d = y + 1 → d < f →
    ((∃ m, n ≤ m ∧ m ≤ y ∧ inM σ t m) ∧ L_M_block_49 K0 K1 f (some (ad 100 0)) (nI t) (nI x) (nI y) (nI n) mm = K0 mm) ∨ ((∀ m, n ≤ m → m ≤ y → ¬ inM σ t m) ∧ L_M_block_49 K0 K1 f (some (ad 100 0)) (nI t) (nI x) (nI y) (nI n) mm = K1 (some (ad 100 0)) (nI t) (nI x) (nI y) mm) := by
  induction d with
  | zero =>
    intro n f hn hf
    obtain ⟨f, rfl⟩ : ∃ g, f = g + 1 := ⟨f - 1, by omega⟩
    right
    refine ⟨fun m m1 m2 => by omega, ?_⟩
    rw [L_M_block_49, if_pos (nI_lt (by omega) (by omega))]
  | succ d ih =>
    intro n f hn hf
    obtain ⟨f, rfl⟩ : ∃ g, f = g + 1 := ⟨f - 1, by omega⟩
    rw [L_M_block_49, if_neg (nI_nlt (by omega) (by omega))]
    simp only [h.xM, gb1_some, gLet_eq, nI_1]
    rcases M_inBlock h (n := n) ht (by omega) h6 hb with ⟨a, b⟩ | ⟨a, b⟩
    · rw [b]
      simp only [gb2_some, if_neg (show ¬ (1 : Int32) = 0 by decide)]
      exact Or.inl ⟨⟨n, by omega, by omega, a⟩, trivial⟩
    · rw [b]
      simp only [gb2_some, if_true]
      rcases ih (n + 1) f (by omega) (by omega) with ⟨⟨m, m1, m2, m3⟩, z⟩ | ⟨w, z⟩
      · exact Or.inl ⟨⟨m, by omega, m2, m3⟩, z⟩
      · refine Or.inr ⟨fun m m1 m2 => ?_, z⟩
        by_cases e : m = n
        · subst e; exact a
        · exact w m (by omega) m2
theorem Step.block (h : Rep n0 σ τ ad mm) (hI : Inv σ τ) (a b c : Int32) : Step n0 ad mm (F_S_block (ad 0 0) a b c) (F_M_block (ad 100 0) a b c) := by
  obtain ⟨h0, h1, h2, h3, h4, h5, h6, h7, h8, h9⟩ := id hI
  obtain ⟨e1, e2, e3, e4, e5, e6, e7, e8, e9, -⟩ := id h0
  rcases tel h h0 a with ⟨hS, hM⟩ | ⟨t, ht, rfl⟩
  · refine Step.same (r := 0) h hI ?_ ?_
    · unfold F_S_block
      simp only [h.xS, gb1_some, gb2_some, hS, if_true]
    · unfold F_M_block
      simp only [h.xM, gb1_some, gb2_some, hM, if_true]
  have hS := S_tellerAt_yes h h0 ht
  have hM := M_isTeller_yes h ht e6
  have c6 := (h9.1 t).2
  have ce := (h9.1 t).1
  obtain ⟨f, hf, hfe⟩ := gF_big
  -- what the reference answers to a refused one
  have Mno : ∀ w : Int32, (F_M_isIn b.toInt64 1 9999 mm = some (0, mm) ∨ ((∀ mm' : gM, F_M_isIn b.toInt64 1 9999 mm' = some (1, mm')) ∧ F_M_isIn c.toInt64 b.toInt64 9999 mm = some (0, mm))) → F_M_block (ad 100 0) (nI t) b c mm = some (0, mm) := by
    intro w hz
    unfold F_M_block
    simp only [h.xM, gb1_some, gb2_some, hM, if_neg (show ¬ (1 : Int32) = 0 by decide), h.a524 (j := t) (by omega)]
    by_cases z6 : nI (σ 524 t) = 6
    · rw [if_pos z6]
    · rw [if_neg z6]
      rcases hz with z | ⟨z1, z2⟩
      · rw [z, gb2_some, if_pos rfl]
      · rw [z1, gb2_some, if_neg (by decide), z2, gb2_some, if_pos rfl]
  rcases isInI mm b (lo := 1) (hi := 9999) (by omega) (by omega) with hb | ⟨hb, x, hx1, hx2, rfl⟩
  · refine Step.same (r := 0) h hI ?_ (Mno 0 (Or.inl hb))
    unfold F_S_block
    have hb' : F_M_isIn b.toInt64 1 9999 mm = some (0, mm) := hb
    simp only [h.xS, gb1_some, gb2_some, hS, reduceCtorEq, if_false, S_isNumber_eq, hb', if_true]
  have hb' : ∀ mm' : gM, F_M_isIn (nI x).toInt64 1 9999 mm' = some (1, mm') := hb
  by_cases hc : c < nI x ∨ nI 9999 < c
  · have hcM : F_M_isIn c.toInt64 (nI x).toInt64 9999 mm = some (0, mm) := by
      rw [nI_l (by omega), show (9999 : Int64) = lN 9999 from rfl, M_isIn_eq c (by omega) (by omega), if_pos hc]
    refine Step.same (r := 0) h hI ?_ (Mno 0 (Or.inr ⟨hb', hcM⟩))
    unfold F_S_block
    simp only [h.xS, gb1_some, gb2_some, hS, reduceCtorEq, if_false, S_isNumber_eq, hb', if_neg (show ¬ (1 : Int32) = 0 by decide)]
    rcases isInI mm c (lo := 1) (hi := 9999) (by omega) (by omega) with hc1 | ⟨hc1, y, hy1, hy2, rfl⟩
    · have hc1' : F_M_isIn c.toInt64 1 9999 mm = some (0, mm) := hc1
      rw [hc1', gb2_some, if_pos rfl]
    · have hc1' : F_M_isIn (nI y).toInt64 1 9999 mm = some (1, mm) := hc1 mm
      rw [hc1', gb2_some, if_neg (by decide), if_neg]
      rcases hc with z | z
      · exact Int32.not_le.mpr z
      · exact absurd z (nI_nlt (by omega) (by omega))
  · obtain ⟨y, hy, rfl⟩ : ∃ y, y < 2 ^ 31 ∧ c = nI y := by
      refine nI_of (x := c) (fun z => hc (Or.inl ?_))
      rw [Int32.lt_iff_toInt_lt] at z ⊢
      rw [nI_toInt (by omega)]
      have z' : c.toInt < 0 := z
      omega
    have hxy : x ≤ y := by
      rcases Nat.lt_or_ge y x with z | z
      · exact absurd (Or.inl (nI_lt z (by omega))) hc
      · exact z
    have hy9 : y ≤ 9999 := by
      rcases Nat.lt_or_ge 9999 y with z | z
      · exact absurd (Or.inr (nI_lt z hy)) hc
      · exact z
    have hcM : ∀ mm' : gM, F_M_isIn (nI y).toInt64 (nI x).toInt64 9999 mm' = some (1, mm') := by
      intro mm'
      rw [nI_l (n := x) (by omega), show (9999 : Int64) = lN 9999 from rfl, M_isIn_eq (nI y) (by omega) (by omega), if_neg hc]
    have hc1' : ∀ mm' : gM, F_M_isIn (nI y).toInt64 1 9999 mm' = some (1, mm') := by
      intro mm'
      rw [show (9999 : Int64) = lN 9999 from rfl, show (1 : Int64) = lN 1 from rfl, M_isIn_eq (nI y) (by omega) (by omega), if_neg (fun z => z.elim (nI_nlt (by omega) (by omega)) (nI_nlt (by omega) (by omega)))]
    have bnd : ∀ q, q < σ 524 t → σ 525 (t * 6 + q) < 2 ^ 31 ∧ σ 526 (t * 6 + q) < 2 ^ 31 := fun q hq => by
      have := h9.2.2.2.1 t q hq
      omega
    have Srun : ∀ (r : Int32) (mm1 : gM), (r = 0 ∨ r = 1) → F_Blocks_add (ad 12 t) (nI x) (nI y) mm = some (r, mm1) → F_S_block (ad 0 0) (nI t) (nI x) (nI y) mm = some (r, mm1) := by
      intro r mm1 h01 hr
      unfold F_S_block
      simp only [h.xS, gb1_some, gb2_some, hS, reduceCtorEq, if_false, S_isNumber_eq, hb', hc1', if_neg (show ¬ (1 : Int32) = 0 by decide), if_pos (nI_le hxy (by omega)), h.xTr (t := t) (by omega), hr]
      exact gIf_pos h01
    rcases S_badd h h9 (t := t) (x := x) (y := y) (by omega) hx1 hxy hy9 with ⟨z, hr⟩ | ⟨⟨z1, z2⟩, q, σ1, mm1, q1, q2, q3, q4, q5, g1, n20, n21, n22, n11, hr⟩
    · refine Step.same (r := 0) h hI (Srun 0 mm (Or.inl rfl) hr) ?_
      unfold F_M_block
      rw [hfe]
      simp only [h.xM, gb1_some, gb2_some, hM, if_neg (show ¬ (1 : Int32) = 0 by decide), h.a524 (j := t) (by omega), hb', hcM]
      by_cases z6 : σ 11 t = 6
      · rw [if_pos (show nI (σ 524 t) = 6 by rw [← ce, z6]; rfl)]
      · rw [if_neg (fun w => z6 (by rw [ce]; exact (nI_eq (b := 6) (by omega) (by omega)).mp w))]
        obtain ⟨m, i, m1, m2, m3⟩ := z.resolve_left z6
        rcases mblock_loop h (t := t) (x := x) (y := y) (by omega) hy9 (by omega) bnd (K0 := fun mm => some ((0 : Int32), mm)) (K1 := fun p0 p1 p2 p3 mm => gb1 (gfR 10 20 p0 mm) fun v28 => gb1 (gfR 10 19 p0 mm) fun v30 => gb1 (gaI 0 v30 p1 mm) fun v32 => gb1 (gsI 0 v28 (((6 : Int32) * p1) + v32) p2 mm) fun mm34 => gb1 (gfR 10 21 p0 mm34) fun v36 => gb1 (gfR 10 19 p0 mm34) fun v38 => gb1 (gaI 0 v38 p1 mm34) fun v40 => gb1 (gsI 0 v36 (((6 : Int32) * p1) + v40) p3 mm34) fun mm42 => gb1 (gfR 10 19 p0 mm42) fun v44 => gb1 (gaI 0 v44 p1 mm42) fun v46 => gb1 (gsI 0 v44 p1 (v46 + (1 : Int32)) mm42) fun mm48 => some ((1 : Int32), mm48)) (y + 1 - x) x f (by omega) (by omega) with ⟨_, w⟩ | ⟨w, _⟩
        · exact w
        · exact absurd ((h9.2.2.2.2.1 t m).mpr ⟨i, m3⟩) (w m m1 m2)
    · have k1 : ∀ g, g ≠ 20 → g ≠ 21 → g ≠ 22 → g ≠ 11 → σ1 g = σ g := g1
      have hM1 := M_isTeller_yes q5 (t := t) (by rw [k1 500 (by omega) (by omega) (by omega) (by omega)]; exact ht) (by rw [k1 500 (by omega) (by omega) (by omega) (by omega)]; exact e6)
      have k524 := k1 524 (by omega) (by omega) (by omega) (by omega)
      have k525 := k1 525 (by omega) (by omega) (by omega) (by omega)
      have k526 := k1 526 (by omega) (by omega) (by omega) (by omega)
      have inMe : ∀ m, inM σ1 t m ↔ inM σ t m := by
        intro m
        unfold inM
        rw [k524, k525, k526]
      obtain ⟨mm2, a2, b2, r2⟩ := q5.w525 (j := t * 6 + σ 11 t) (by omega) x
      obtain ⟨mm3, a3, b3, r3⟩ := r2.w526 (j := t * 6 + σ 11 t) (by omega) y
      obtain ⟨mm4, a4, b4, r4⟩ := r3.w524 (j := t) (by omega) (σ 11 t + 1)
      have f524 : σ1 524 t = σ 11 t := by rw [k524]; exact ce.symm
      have rd1 := q5.a524 (j := t) (by omega)
      have rd2 := r2.a524 (j := t) (by omega)
      have rd3 := r3.a524 (j := t) (by omega)
      rw [uS_f (by omega)] at rd2
      rw [uS_f (by omega), uS_f (by omega)] at rd3
      rw [f524] at rd1 rd2 rd3
      refine Step.mk0 (r := 1) (Srun 1 mm1 (Or.inr rfl) hr) q4 q5 (mm2 := mm4) ?_ (by rw [b4, b3, b2]) r4 (hI.g9 (h9.block (t := t) (x := x) (y := y) (q := q) hx1 hxy hy9 ht (by rw [uS_g (by omega), uS_g (by omega), uS_g (by omega), k1 500 (by omega) (by omega) (by omega) (by omega)]) z1 z2 q1 q2 q3 ?_ ?_ ?_ ?_ ?_ ?_ ?_ ?_ ?_ ?_ ?_) (fun g z1 z2 z3 z4 z5 z6 z7 z8 => ?_))
      · unfold F_M_block
        rw [hfe]
        simp only [q5.xM, gb1_some, gb2_some, hM1, if_neg (show ¬ (1 : Int32) = 0 by decide), rd1, hb', hcM]
        rw [if_neg (fun w => by have := (nI_eq (a := σ 11 t) (b := 6) (by omega) (by omega)).mp w; omega)]
        rcases mblock_loop q5 (t := t) (x := x) (y := y) (by omega) hy9 (by rw [k524]; omega) (by rw [k524, k525, k526]; exact bnd) (K0 := fun mm => some ((0 : Int32), mm)) (K1 := fun p0 p1 p2 p3 mm => gb1 (gfR 10 20 p0 mm) fun v28 => gb1 (gfR 10 19 p0 mm) fun v30 => gb1 (gaI 0 v30 p1 mm) fun v32 => gb1 (gsI 0 v28 (((6 : Int32) * p1) + v32) p2 mm) fun mm34 => gb1 (gfR 10 21 p0 mm34) fun v36 => gb1 (gfR 10 19 p0 mm34) fun v38 => gb1 (gaI 0 v38 p1 mm34) fun v40 => gb1 (gsI 0 v36 (((6 : Int32) * p1) + v40) p3 mm34) fun mm42 => gb1 (gfR 10 19 p0 mm42) fun v44 => gb1 (gaI 0 v44 p1 mm42) fun v46 => gb1 (gsI 0 v44 p1 (v46 + (1 : Int32)) mm42) fun mm48 => some ((1 : Int32), mm48)) (y + 1 - x) x f (by omega) (by omega) with ⟨⟨m, m1, m2, m3⟩, _⟩ | ⟨_, w⟩
        · obtain ⟨i, hi⟩ := (h9.2.2.2.2.1 t m).mp ((inMe m).mp m3)
          exact absurd hi (z2 m i m1 m2)
        · rw [w]
          simp only [q5.xM, r2.xM, r3.xM, gb1_some, rd1, rd2, rd3, ix6, a2, a3, nI_1, a4]
      · intro i
        rw [uS_f (by omega), uS_f (by omega), uS_f (by omega)]
        exact n20 i
      · intro i
        rw [uS_f (by omega), uS_f (by omega), uS_f (by omega)]
        exact n21 i
      · intro i
        rw [uS_f (by omega), uS_f (by omega), uS_f (by omega)]
        exact n22 i
      · intro i
        rw [uS_f (by omega), uS_f (by omega), uS_f (by omega)]
        exact n11 i
      · intro i
        simp [uS, k524]
      · intro i
        simp [uS, k525]
      · intro i
        simp [uS, k526]
      · rw [uS_g (by omega), uS_g (by omega), uS_g (by omega), k1 527 (by omega) (by omega) (by omega) (by omega)]
      · rw [uS_g (by omega), uS_g (by omega), uS_g (by omega), k1 501 (by omega) (by omega) (by omega) (by omega)]
      · rw [uS_g (by omega), uS_g (by omega), uS_g (by omega), k1 4 (by omega) (by omega) (by omega) (by omega)]
      · rw [uS_g (by omega), uS_g (by omega), uS_g (by omega), k1 6 (by omega) (by omega) (by omega) (by omega)]
      · rw [uS_g (by omega), uS_g (by omega), uS_g (by omega), k1 g z2 z3 z4 z1]
end BK
