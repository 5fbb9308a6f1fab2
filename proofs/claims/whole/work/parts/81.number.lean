/-! number -/
section NU
variable {n0 : Nat} {σ σ' σ'' : Nat → Nat → Nat} {τ τ' τ'' : Nat → Nat → Int64} {ad : Nat → Nat → Nat} {mm : gM}
theorem give_in (h : Rep n0 σ τ ad mm) (hI : Inv σ τ) {t i : Nat} (ht : t < σ 500 0) (hi : i < σ 11 t) {K1 : Option Nat → Int32 → Int32 → gM → Option (Int32 × gM)} {K0 : Option Nat → Int32 → gM → Option (Int32 × gM)} (d : Nat) : ∀ (n f : Nat), n + d = σ 21 (t * 6 + i) + 1 → d < f →
    (∃ n', n ≤ n' ∧ n' ≤ σ 21 (t * 6 + i) ∧ ¬ tld σ t n' ∧ (∀ m, n ≤ m → m < n' → tld σ t m) ∧ L_Teller_giveNumber_23 K1 K0 f (some (ad 11 t)) (nI i) (nI n) mm = K1 (some (ad 11 t)) (nI i) (nI n') mm) ∨ ((∀ m, n ≤ m → m ≤ σ 21 (t * 6 + i) → tld σ t m) ∧ L_Teller_giveNumber_23 K1 K0 f (some (ad 11 t)) (nI i) (nI n) mm = K0 (some (ad 11 t)) (nI i) mm) := by
  obtain ⟨h0, h1, h2, h3, h4, h5, h6, h7, h8, h9⟩ := id hI
  obtain ⟨e1, e2, e3, e4, e5, e6, -⟩ := id h0
  have c6 := (h9.1 t).2
  obtain ⟨b1, b2, b3, b4, b5⟩ := h9.2.1 t i hi
  induction d with
  | zero =>
    intro n f hn hf
    obtain ⟨f, rfl⟩ : ∃ g, f = g + 1 := ⟨f - 1, by omega⟩
    right
    refine ⟨fun m m1 m2 => by omega, ?_⟩
    rw [L_Teller_giveNumber_23]
    simp only [h.xTr (t := t) (by omega), gb1_some, h.a21 (t := t) (by omega) (j := i) (by omega)]
    rw [if_pos (nI_lt (by omega) (by omega))]
  | succ d ih =>
    intro n f hn hf
    obtain ⟨f, rfl⟩ : ∃ g, f = g + 1 := ⟨f - 1, by omega⟩
    rw [L_Teller_giveNumber_23]
    simp only [h.xTr (t := t) (by omega), gb1_some, h.a21 (t := t) (by omega) (j := i) (by omega), gLet_eq, nI_1]
    rw [if_neg (nI_nlt (by omega) (by omega))]
    rcases S_toldWith h hI ht (w := n) (by omega) with ⟨k, k1, k2, k3, k4⟩ | ⟨k1, k2⟩
    · rw [k4]
      simp only [gb2_some, reduceCtorEq, if_false]
      have hd : tld σ t n := ⟨k, k1, k2, k3⟩
      rcases ih (n + 1) f (by omega) (by omega) with ⟨n', a1, a2, a3, a4, a5⟩ | ⟨a1, a2⟩
      · refine Or.inl ⟨n', by omega, a2, a3, fun m m1 m2 => ?_, a5⟩
        by_cases e : m = n
        · subst e; exact hd
        · exact a4 m (by omega) m2
      · refine Or.inr ⟨fun m m1 m2 => ?_, a2⟩
        by_cases e : m = n
        · subst e; exact hd
        · exact a1 m (by omega) m2
    · rw [k2]
      simp only [gb2_some, if_true]
      exact Or.inl ⟨n, by omega, by omega, k1, fun m m1 m2 => by omega, rfl⟩
theorem give_out (h : Rep n0 σ τ ad mm) (hI : Inv σ τ) {t : Nat} (ht : t < σ 500 0) {K1 : Option Nat → Int32 → Int32 → gM → Option (Int32 × gM)} {K0 : gM → Option (Int32 × gM)} (d : Nat) : ∀ (i f : Nat), i + d = σ 11 t → d < f →
    (∃ i' n', i' < σ 11 t ∧ σ 22 (t * 6 + i') ≤ n' ∧ n' ≤ σ 21 (t * 6 + i') ∧ ¬ tld σ t n' ∧ (∀ m, σ 22 (t * 6 + i') ≤ m → m < n' → tld σ t m) ∧ (∀ j m, i ≤ j → j < i' → σ 22 (t * 6 + j) ≤ m → m ≤ σ 21 (t * 6 + j) → tld σ t m) ∧ L_Teller_giveNumber_2 K1 K0 f (some (ad 11 t)) (nI i) mm = K1 (some (ad 11 t)) (nI i') (nI n') mm) ∨ ((∀ j m, i ≤ j → j < σ 11 t → σ 22 (t * 6 + j) ≤ m → m ≤ σ 21 (t * 6 + j) → tld σ t m) ∧ L_Teller_giveNumber_2 K1 K0 f (some (ad 11 t)) (nI i) mm = K0 mm) := by
  obtain ⟨h0, h1, h2, h3, h4, h5, h6, h7, h8, h9⟩ := id hI
  obtain ⟨e1, e2, e3, e4, e5, e6, -⟩ := id h0
  have c6 := (h9.1 t).2
  induction d with
  | zero =>
    intro i f hi hf
    obtain ⟨f, rfl⟩ : ∃ g, f = g + 1 := ⟨f - 1, by omega⟩
    right
    refine ⟨fun j m j1 j2 => by omega, ?_⟩
    rw [L_Teller_giveNumber_2]
    simp only [h.xTr (t := t) (by omega), gb1_some]
    rw [if_pos (nI_le (by omega) (by omega))]
  | succ d ih =>
    intro i f hi hf
    obtain ⟨f, rfl⟩ : ∃ g, f = g + 1 := ⟨f - 1, by omega⟩
    obtain ⟨b1, b2, b3, b4, b5⟩ := h9.2.1 t i (by omega)
    obtain ⟨F, hF, hFe⟩ := gF_big
    rw [L_Teller_giveNumber_2, hFe]
    simp only [h.xTr (t := t) (by omega), gb1_some, h.a22 (t := t) (by omega) (j := i) (by omega)]
    rw [if_neg (nI_ge (by omega) (by omega))]
    rcases give_in h hI ht (i := i) (by omega) (K1 := fun p0 p1 p2 mm => K1 p0 p1 p2 mm) (K0 := fun p0 p1 mm => gLet (p1 + 1) fun x26 => L_Teller_giveNumber_2 K1 K0 f p0 x26 mm) (σ 21 (t * 6 + i) + 1 - σ 22 (t * 6 + i)) (σ 22 (t * 6 + i)) F (by omega) (by omega) with ⟨n', a1, a2, a3, a4, a5⟩ | ⟨a1, a2⟩
    · rw [a5]
      exact Or.inl ⟨i, n', by omega, a1, a2, a3, a4, fun j m j1 j2 => by omega, rfl⟩
    · rw [a2]
      simp only [gLet_eq, nI_1]
      rcases ih (i + 1) f (by omega) (by omega) with ⟨i', n', c1, c2, c3, c4, c5, c6', c7⟩ | ⟨c1, c2⟩
      · refine Or.inl ⟨i', n', c1, c2, c3, c4, c5, fun j m j1 j2 m1 m2 => ?_, c7⟩
        by_cases e : j = i
        · subst e; exact a1 m m1 m2
        · exact c6' j m (by omega) j2 m1 m2
      · refine Or.inr ⟨fun j m j1 j2 m1 m2 => ?_, c2⟩
        by_cases e : j = i
        · subst e; exact a1 m m1 m2
        · exact c1 j m (by omega) j2 m1 m2
/-- a number that the reference may give -/
def cand (σ : Nat → Nat → Nat) (t n : Nat) : Prop := inM σ t n ∧ σ 527 (t * 10000 + n) = 0 ∧ ¬ tld σ t n
theorem tld_iff (hI : Inv σ τ) {t n : Nat} : tld σ t n ↔ ∃ k, k < σ 501 0 ∧ σ 511 k = t ∧ σ 512 k = n := by
  unfold tld
  constructor
  · rintro ⟨k, k1, k2, k3⟩
    have := hI.mb k1
    exact ⟨k, k1, by omega, by omega⟩
  · rintro ⟨k, k1, k2, k3⟩
    have := hI.mb k1
    exact ⟨k, k1, by omega, by omega⟩
/-- told, by the reference's fields alone (the class's may have changed) -/
theorem M_tld (h : Rep n0 σ' τ' ad mm) (hI : Inv σ τ) (e : σ' 501 = σ 501 ∧ σ' 511 = σ 511 ∧ σ' 512 = σ 512) {t n : Nat} (ht : t < 2 ^ 31) (hn : n < 2 ^ 31) : (tld σ t n ∧ ∃ k, k < σ 501 0 ∧ σ 4 k = t ∧ σ 6 k = n ∧ F_M_told (ad 100 0) (nI t) (nI n) mm = some (nI k, mm)) ∨ (¬ tld σ t n ∧ F_M_told (ad 100 0) (nI t) (nI n) mm = some (-1, mm)) := by
  obtain ⟨e1, e2, e3⟩ := e
  have hN := hI.1.2.2.1
  rcases M_told h (by rw [e1]; exact hN) (by rw [e1, e2, e3]; exact fun k hk => by have := hI.mb hk; omega) ht hn with ⟨k, k1, k2, k3, k4⟩ | ⟨k1, k2⟩
  · rw [e1] at k1
    rw [e2] at k2
    rw [e3] at k3
    have := hI.mb k1
    exact Or.inl ⟨(tld_iff hI).mpr ⟨k, k1, k2, k3⟩, k, k1, by omega, by omega, k4⟩
  · rw [e1, e2, e3] at k1
    refine Or.inr ⟨fun w => ?_, k2⟩
    obtain ⟨k, w1, w2, w3⟩ := (tld_iff hI).mp w
    exact k1 k w1 ⟨w2, w3⟩
theorem num_loop (h : Rep n0 σ' τ' ad mm) (hI : Inv σ τ) (e : ∀ g, 500 ≤ g → σ' g = σ g) {t : Nat} (ht : t < σ 500 0) {K1 : Option Nat → Int32 → Int32 → gM → Option (Int32 × gM)} {K0 : gM → Option (Int32 × gM)} (d : Nat) : ∀ (n f : Nat), n + d = 10000 → d < f →
    (∃ n', n ≤ n' ∧ n' < 10000 ∧ cand σ t n' ∧ (∀ m, n ≤ m → m < n' → ¬ cand σ t m) ∧ L_M_number_12 K1 K0 f (some (ad 100 0)) (nI t) (nI n) mm = K1 (some (ad 100 0)) (nI t) (nI n') mm) ∨ ((∀ m, n ≤ m → m < 10000 → ¬ cand σ t m) ∧ L_M_number_12 K1 K0 f (some (ad 100 0)) (nI t) (nI n) mm = K0 mm) := by
  obtain ⟨h0, h1, h2, h3, h4, h5, h6, h7, h8, h9⟩ := id hI
  obtain ⟨e1, e2, e3, e4, e5, e6, -⟩ := id h0
  have c6 := (h9.1 t).2
  have ce := (h9.1 t).1
  induction d with
  | zero =>
    intro n f hn hf
    obtain ⟨f, rfl⟩ : ∃ g, f = g + 1 := ⟨f - 1, by omega⟩
    right
    refine ⟨fun m m1 m2 => by omega, ?_⟩
    rw [L_M_number_12, if_pos (show (10000 : Int32) ≤ nI n from nI_le (a := 10000) (by omega) (by omega))]
  | succ d ih =>
    intro n f hn hf
    obtain ⟨f, rfl⟩ : ∃ g, f = g + 1 := ⟨f - 1, by omega⟩
    have gl := h9.2.2.2.2.2.1 t n (by omega)
    have go : ¬ cand σ t n → (∃ n', n ≤ n' ∧ n' < 10000 ∧ cand σ t n' ∧ (∀ m, n ≤ m → m < n' → ¬ cand σ t m) ∧ L_M_number_12 K1 K0 f (some (ad 100 0)) (nI t) (nI (n + 1)) mm = K1 (some (ad 100 0)) (nI t) (nI n') mm) ∨ ((∀ m, n ≤ m → m < 10000 → ¬ cand σ t m) ∧ L_M_number_12 K1 K0 f (some (ad 100 0)) (nI t) (nI (n + 1)) mm = K0 mm) := by
      intro hz
      rcases ih (n + 1) f (by omega) (by omega) with ⟨n', a1, a2, a3, a4, a5⟩ | ⟨a1, a2⟩
      · refine Or.inl ⟨n', by omega, a2, a3, fun m m1 m2 => ?_, a5⟩
        by_cases e : m = n
        · subst e; exact hz
        · exact a4 m (by omega) m2
      · refine Or.inr ⟨fun m m1 m2 => ?_, a2⟩
        by_cases e : m = n
        · subst e; exact hz
        · exact a1 m (by omega) m2
    have inMe : inM σ' t n ↔ inM σ t n := by
      unfold inM
      rw [e 524 (by omega), e 525 (by omega), e 526 (by omega)]
    rw [L_M_number_12, if_neg (show ¬ (10000 : Int32) ≤ nI n from nI_ge (b := 10000) (by omega) (by omega))]
    simp only [h.xM, gb1_some, gLet_eq, nI_1]
    rcases M_inBlock h (t := t) (n := n) (by omega) (by omega) (by rw [e 524 (by omega)]; omega) (by
      rw [e 524 (by omega), e 525 (by omega), e 526 (by omega)]
      exact fun q hq => by have := h9.2.2.2.1 t q hq; omega) with ⟨a, b⟩ | ⟨a, b⟩
    · rw [b]
      simp only [gb2_some, if_neg (show ¬ (1 : Int32) = 0 by decide), h.xM, gb1_some, ix10000, h.a527 (j := t * 10000 + n) (by omega), e 527 (by omega)]
      by_cases z : σ 527 (t * 10000 + n) = 0
      · rw [if_pos (by rw [z]; rfl)]
        rcases M_tld h hI ⟨e 501 (by omega), e 511 (by omega), e 512 (by omega)⟩ (t := t) (n := n) (by omega) (by omega) with ⟨w, k, k1, k2, k3, k4⟩ | ⟨w, k4⟩
        · rw [k4]
          simp only [gb2_some]
          rw [if_pos (nI_pos' (by omega))]
          exact go (fun q => q.2.2 w)
        · rw [k4]
          simp only [gb2_some]
          rw [if_neg (by decide)]
          exact Or.inl ⟨n, by omega, by omega, ⟨inMe.mp a, z, w⟩, fun m m1 m2 => by omega, rfl⟩
      · rw [if_neg (fun q => z ((nI_z (by omega)).mp q))]
        exact go (fun q => z q.2.1)
    · rw [b]
      simp only [gb2_some, if_true]
      exact go (fun q => a (inMe.mpr q.1))
theorem cand_iff (h9 : I9 σ) {t n : Nat} (hn : n < 10000) : cand σ t n ↔ (∃ i, inb σ t n i ∧ σ 22 (t * 6 + i) ≤ n) ∧ ¬ tld σ t n := by
  obtain ⟨b1, b2, b3, b4, b5, b6, b7, b8⟩ := h9
  have g1 := b6 t n hn
  unfold cand
  rw [b5]
  constructor
  · rintro ⟨⟨i, hi⟩, a2, a3⟩
    refine ⟨⟨i, hi, ?_⟩, a3⟩
    rcases Nat.lt_or_ge n (σ 22 (t * 6 + i)) with w | w
    · rcases (b7 t n i hn hi).2 w with z | z
      · omega
      · exact absurd z a3
    · exact w
  · rintro ⟨⟨i, hi, a2⟩, a3⟩
    refine ⟨⟨i, hi⟩, ?_, a3⟩
    have := (b7 t n i hn hi).1
    rcases Nat.eq_zero_or_pos (σ 527 (t * 10000 + n)) with z | z
    · exact z
    · have := this (by omega)
      omega
theorem Step.number (h : Rep n0 σ τ ad mm) (hI : Inv σ τ) (a : Int32) : Step n0 ad mm (F_S_number (ad 0 0) a) (F_M_number (ad 100 0) a) := by
  obtain ⟨h0, h1, h2, h3, h4, h5, h6, h7, h8, h9⟩ := id hI
  obtain ⟨e1, e2, e3, e4, e5, e6, e7, e8, e9, -⟩ := id h0
  rcases tel h h0 a with ⟨hS, hM⟩ | ⟨t, ht, rfl⟩
  · refine Step.same (r := -1) h hI ?_ ?_
    · unfold F_S_number
      simp only [h.xS, gb1_some, gb2_some, hS, if_true]
    · unfold F_M_number
      simp only [h.xM, gb1_some, gb2_some, hM, if_true]
  have hS := S_tellerAt_yes h h0 ht
  have c6 := (h9.1 t).2
  obtain ⟨f, hf, hfe⟩ := gF_big
  have Srun : ∀ (r : Int32) (mm1 : gM), L_Teller_giveNumber_2 (fun p0 p1 p2 mm => gb1 (gfR 1 1 p0 mm) fun v27 => gb1 (gfR 2 2 v27 mm) fun v29 => gb1 (gsI 0 v29 p1 (p2 + (1 : Int32)) mm) fun mm31 => some (p2, mm31)) (fun mm => some ((-1 : Int32), mm)) f (some (ad 11 t)) (nI 0) mm = some (r, mm1) → F_S_number (ad 0 0) (nI t) mm = some (r, mm1) := by
    intro r mm1 hr
    rw [show nI 0 = (0 : Int32) from rfl] at hr
    unfold F_S_number F_Teller_giveNumber
    rw [hfe]
    simp only [h.xS, gb1_some, gb2_some, hS, reduceCtorEq, if_false, h.xTr (t := t) (by omega), hr]
  have Mrun : ∀ (σ1 : Nat → Nat → Nat) (mm1 mm2 : gM) (r : Int32), Rep n0 σ1 τ ad mm1 → (∀ g, 500 ≤ g → σ1 g = σ g) → L_M_number_12 (fun p0 p1 p2 mm => gb1 (gfR 10 22 p0 mm) fun v28 => gb1 (gsI 2 v28 (((10000 : Int32) * p1) + p2) (1 : Int32) mm) fun mm30 => some (p2, mm30)) (fun mm => some ((-1 : Int32), mm)) f (some (ad 100 0)) (nI t) (nI 1) mm1 = some (r, mm2) → F_M_number (ad 100 0) (nI t) mm1 = some (r, mm2) := by
    intro σ1 mm1 mm2 r r1 k1 hr
    have hM1 := M_isTeller_yes r1 (t := t) (by rw [k1 500 (by omega)]; exact ht) (by rw [k1 500 (by omega)]; exact e6)
    unfold F_M_number
    rw [hfe]
    simp only [r1.xM, gb1_some, gb2_some, hM1, if_neg (show ¬ (1 : Int32) = 0 by decide)]
    exact hr
  rcases give_out h hI ht (K1 := fun p0 p1 p2 mm => gb1 (gfR 1 1 p0 mm) fun v27 => gb1 (gfR 2 2 v27 mm) fun v29 => gb1 (gsI 0 v29 p1 (p2 + (1 : Int32)) mm) fun mm31 => some (p2, mm31)) (K0 := fun mm => some ((-1 : Int32), mm)) (σ 11 t) 0 f (by omega) (by omega) with ⟨i, n, a1, a2, a3, a4, a5, a6, a7⟩ | ⟨a1, a2⟩
  · obtain ⟨b1, b2, b3, b4, b5⟩ := h9.2.1 t i a1
    obtain ⟨mm1, w1, w2, r1⟩ := h.w22 (t := t) (by omega) (j := i) (by omega) (n + 1)
    have hS1 := Srun (nI n) mm1 (by
      rw [a7]
      simp only [h.xTr (t := t) (by omega), gb1_some, nI_1, w1])
    have k1 : ∀ g, 500 ≤ g → uS σ 22 (t * 6 + i) (n + 1) g = σ g := fun g hg => uS_g (by omega)
    have cn : cand σ t n := (cand_iff h9 (by omega)).mpr ⟨⟨i, ⟨a1, by omega, a3⟩, a2⟩, a4⟩
    rcases num_loop r1 hI k1 ht (K1 := fun p0 p1 p2 mm => gb1 (gfR 10 22 p0 mm) fun v28 => gb1 (gsI 2 v28 (((10000 : Int32) * p1) + p2) (1 : Int32) mm) fun mm30 => some (p2, mm30)) (K0 := fun mm => some ((-1 : Int32), mm)) 9999 1 f (by omega) (by omega) with ⟨n', c1, c2, c3, c4, c5⟩ | ⟨c1, c2⟩
    · have hnn : n' = n := by
        rcases Nat.lt_trichotomy n' n with z | z | z
        · exfalso
          obtain ⟨⟨i', hi', hx⟩, hnt⟩ := (cand_iff h9 (by omega)).mp c3
          obtain ⟨y1, y2, y3⟩ := hi'
          rcases Nat.lt_trichotomy i' i with q | q | q
          · exact hnt (a6 i' n' (by omega) q hx y3)
          · subst q
            exact hnt (a5 n' hx z)
          · have := h9.2.2.1 t i i' q y1
            omega
        · exact z
        · exact absurd cn (c4 n (by omega) z)
      subst hnn
      obtain ⟨mm2, v1, v2, r2⟩ := r1.w527 (j := t * 10000 + n') (by omega) 1
      refine Step.mk0 (r := nI n') hS1 w2 r1 (Mrun _ mm1 mm2 _ r1 k1 (by
        rw [c5]
        simp only [r1.xM, gb1_some, ix10000]
        rw [show (1 : Int32) = nI 1 from rfl, v1, gb1_some])) v2 r2 (hI.g9 ?_ (fun g z1 z2 z3 z4 z5 z6 z7 z8 => (uS_g z8).trans (uS_g z4)))
      have hinb : ∀ u m j, inb (uS (uS σ 22 (t * 6 + i) (n' + 1)) 527 (t * 10000 + n') 1) u m j ↔ inb σ u m j := by
        intro u m j
        unfold inb
        rw [uS_g (show (11 : Nat) ≠ 527 by omega), uS_g (show (11 : Nat) ≠ 22 by omega), uS_g (show (20 : Nat) ≠ 527 by omega), uS_g (show (20 : Nat) ≠ 22 by omega), uS_g (show (21 : Nat) ≠ 527 by omega), uS_g (show (21 : Nat) ≠ 22 by omega)]
      have hinM : ∀ u m, inM (uS (uS σ 22 (t * 6 + i) (n' + 1)) 527 (t * 10000 + n') 1) u m ↔ inM σ u m := by
        intro u m
        unfold inM
        rw [uS_g (show (524 : Nat) ≠ 527 by omega), uS_g (show (524 : Nat) ≠ 22 by omega), uS_g (show (525 : Nat) ≠ 527 by omega), uS_g (show (525 : Nat) ≠ 22 by omega), uS_g (show (526 : Nat) ≠ 527 by omega), uS_g (show (526 : Nat) ≠ 22 by omega)]
      have htl : ∀ u m, tld (uS (uS σ 22 (t * 6 + i) (n' + 1)) 527 (t * 10000 + n') 1) u m ↔ tld σ u m := by
        intro u m
        unfold tld
        rw [uS_g (show (501 : Nat) ≠ 527 by omega), uS_g (show (501 : Nat) ≠ 22 by omega), uS_g (show (4 : Nat) ≠ 527 by omega), uS_g (show (4 : Nat) ≠ 22 by omega), uS_g (show (6 : Nat) ≠ 527 by omega), uS_g (show (6 : Nat) ≠ 22 by omega)]
      have f22 : ∀ j, uS (uS σ 22 (t * 6 + i) (n' + 1)) 527 (t * 10000 + n') 1 22 j = if j = t * 6 + i then n' + 1 else σ 22 j := by
        intro j
        simp [uS]
      have f527 : ∀ j, uS (uS σ 22 (t * 6 + i) (n' + 1)) 527 (t * 10000 + n') 1 527 j = if j = t * 10000 + n' then 1 else σ 527 j := by
        intro j
        simp [uS]
      obtain ⟨x1, x2, x3, x4, x5, x6, x7, x8⟩ := id h9
      refine ⟨?_, fun u j hj => ?_, ?_, ?_, fun u m => ?_, fun u m hm => ?_, fun u m j hm hj => ?_, fun u m hm hj => ?_⟩
      · rw [uS_g (show (11 : Nat) ≠ 527 by omega), uS_g (show (11 : Nat) ≠ 22 by omega), uS_g (show (524 : Nat) ≠ 527 by omega), uS_g (show (524 : Nat) ≠ 22 by omega), uS_g (show (500 : Nat) ≠ 527 by omega), uS_g (show (500 : Nat) ≠ 22 by omega)]
        exact x1
      · rw [uS_g (show (11 : Nat) ≠ 527 by omega), uS_g (show (11 : Nat) ≠ 22 by omega)] at hj
        rw [uS_g (show (20 : Nat) ≠ 527 by omega), uS_g (show (20 : Nat) ≠ 22 by omega), uS_g (show (21 : Nat) ≠ 527 by omega), uS_g (show (21 : Nat) ≠ 22 by omega), f22]
        have q := x2 u j hj
        have uc := (x1 u).2
        by_cases e : u * 6 + j = t * 6 + i
        · rw [if_pos e, e]
          rw [e] at q
          omega
        · rw [if_neg e]
          exact q
      · rw [uS_g (show (11 : Nat) ≠ 527 by omega), uS_g (show (11 : Nat) ≠ 22 by omega), uS_g (show (20 : Nat) ≠ 527 by omega), uS_g (show (20 : Nat) ≠ 22 by omega), uS_g (show (21 : Nat) ≠ 527 by omega), uS_g (show (21 : Nat) ≠ 22 by omega)]
        exact x3
      · rw [uS_g (show (524 : Nat) ≠ 527 by omega), uS_g (show (524 : Nat) ≠ 22 by omega), uS_g (show (525 : Nat) ≠ 527 by omega), uS_g (show (525 : Nat) ≠ 22 by omega), uS_g (show (526 : Nat) ≠ 527 by omega), uS_g (show (526 : Nat) ≠ 22 by omega)]
        exact x4
      · rw [hinM]
        simp only [hinb]
        exact x5 u m
      · rw [f527]
        split
        · omega
        · exact x6 u m hm
      · have hj' := (hinb u m j).mp hj
        have uc := (x1 u).2
        have uc' := hj'.1
        rw [f527, f22, htl]
        by_cases e : u * 6 + j = t * 6 + i
        · obtain ⟨y1, y2⟩ := r_seg (n := 6) (by omega) (by omega) e
          subst y1 y2
          rw [if_pos e]
          constructor
          · intro hg
            by_cases em : u * 10000 + m = u * 10000 + n'
            · omega
            · rw [if_neg em] at hg
              have := (x7 u m j hm hj').1 hg
              omega
          · intro hg
            by_cases em : m = n'
            · left
              rw [if_pos (by omega)]
            · rw [if_neg (by omega)]
              rcases Nat.lt_or_ge m (σ 22 (u * 6 + j)) with w | w
              · exact (x7 u m j hm hj').2 w
              · exact Or.inr (a5 m w (by omega))
        · rw [if_neg e]
          have em : ¬ u * 10000 + m = t * 10000 + n' := by
            intro q
            obtain ⟨y1, y2⟩ := r_seg (n := 10000) hm (by omega) q
            subst y1 y2
            obtain ⟨z1, z2, z3⟩ := hj'
            rcases Nat.lt_trichotomy i j with v | v | v
            · have := x3 u i j v z1; omega
            · subst v; exact e rfl
            · have := x3 u j i v a1; omega
          rw [if_neg em]
          exact x7 u m j hm hj'
      · rw [hinM] at hj
        rw [f527]
        have em : ¬ u * 10000 + m = t * 10000 + n' := by
          intro q
          obtain ⟨y1, y2⟩ := r_seg (n := 10000) hm (by omega) q
          subst y1 y2
          exact hj cn.1
        rw [if_neg em]
        exact x8 u m hm hj
    · exact absurd cn (c1 n (by omega) (by omega))
  · have hS1 := Srun (-1) mm a2
    refine Step.same (r := -1) h hI hS1 (Mrun σ mm mm _ h (fun _ _ => rfl) ?_)
    rcases num_loop h hI (fun _ _ => rfl) ht (K1 := fun p0 p1 p2 mm => gb1 (gfR 10 22 p0 mm) fun v28 => gb1 (gsI 2 v28 (((10000 : Int32) * p1) + p2) (1 : Int32) mm) fun mm30 => some (p2, mm30)) (K0 := fun mm => some ((-1 : Int32), mm)) 9999 1 f (by omega) (by omega) with ⟨n', c1, c2, c3, c4, c5⟩ | ⟨c1, c2⟩
    · obtain ⟨⟨i', hi', hx⟩, hnt⟩ := (cand_iff h9 (by omega)).mp c3
      obtain ⟨y1, y2, y3⟩ := hi'
      exact absurd (a1 i' n' (by omega) y1 hx y3) hnt
    · exact c2
end NU
