/-! told: the search of the class and of the reference; blocks of the reference -/
section TO
variable {n0 : Nat} {σ σ' σ'' : Nat → Nat → Nat} {τ τ' τ'' : Nat → Nat → Int64} {ad : Nat → Nat → Nat} {mm : gM}
theorem told_loop (h : Rep n0 σ τ ad mm) (hN : σ 501 0 ≤ 200) (hb : ∀ k, k < σ 501 0 → σ 511 k < 2 ^ 31 ∧ σ 512 k < 2 ^ 31) {t n : Nat} (ht : t < 2 ^ 31) (hn : n < 2 ^ 31) {K : Int32 → gM → Option (Int32 × gM)} (d : Nat) : ∀ (j f : Nat) (acc : Int32), j + d = σ 501 0 → d < f → ((∃ k, k < j ∧ σ 511 k = t ∧ σ 512 k = n ∧ acc = nI k) ∨ ((∀ k, k < j → ¬ (σ 511 k = t ∧ σ 512 k = n)) ∧ acc = -1)) →
    (∃ k, k < σ 501 0 ∧ σ 511 k = t ∧ σ 512 k = n ∧ L_M_told_5 K f (some (ad 100 0)) (nI t) (nI n) acc (nI j) mm = K (nI k) mm) ∨ ((∀ k, k < σ 501 0 → ¬ (σ 511 k = t ∧ σ 512 k = n)) ∧ L_M_told_5 K f (some (ad 100 0)) (nI t) (nI n) acc (nI j) mm = K (-1) mm) := by
  induction d with
  | zero =>
    intro j f acc hj hf ha
    obtain ⟨f, rfl⟩ : ∃ g, f = g + 1 := ⟨f - 1, by omega⟩
    have : j = σ 501 0 := by omega
    subst this
    rw [L_M_told_5]
    simp only [h.xM, gb1_some]
    rw [if_pos (nI_le (by omega) (by omega))]
    rcases ha with ⟨k, a1, a2, a3, rfl⟩ | ⟨a1, rfl⟩
    · exact Or.inl ⟨k, a1, a2, a3, rfl⟩
    · exact Or.inr ⟨a1, rfl⟩
  | succ d ih =>
    intro j f acc hj hf ha
    obtain ⟨f, rfl⟩ : ∃ g, f = g + 1 := ⟨f - 1, by omega⟩
    obtain ⟨b1, b2⟩ := hb j (by omega)
    have go : ¬ (σ 511 j = t ∧ σ 512 j = n) → ((∃ k, k < j + 1 ∧ σ 511 k = t ∧ σ 512 k = n ∧ acc = nI k) ∨ ((∀ k, k < j + 1 → ¬ (σ 511 k = t ∧ σ 512 k = n)) ∧ acc = -1)) := by
      intro hz
      rcases ha with ⟨k, a1, a2, a3, a4⟩ | ⟨a1, a2⟩
      · exact Or.inl ⟨k, by omega, a2, a3, a4⟩
      · refine Or.inr ⟨fun k hk => ?_, a2⟩
        by_cases e : k = j
        · subst e; exact hz
        · exact a1 k (by omega)
    rw [L_M_told_5]
    simp only [h.xM, gb1_some, h.a511 (j := j) (by omega), h.a512 (j := j) (by omega), gLet_eq, nI_1]
    rw [if_neg (nI_ge (by omega) (by omega))]
    by_cases z1 : σ 511 j = t
    · rw [if_pos (by rw [z1])]
      by_cases z2 : σ 512 j = n
      · rw [if_pos (by rw [z2])]
        exact ih (j + 1) f _ (by omega) (by omega) (Or.inl ⟨j, by omega, z1, z2, rfl⟩)
      · rw [if_neg (fun w => z2 ((nI_eq b2 hn).mp w))]
        exact ih (j + 1) f _ (by omega) (by omega) (go (fun w => z2 w.2))
    · rw [if_neg (fun w => z1 ((nI_eq b1 ht).mp w))]
      exact ih (j + 1) f _ (by omega) (by omega) (go (fun w => z1 w.1))
theorem M_told (h : Rep n0 σ τ ad mm) (hN : σ 501 0 ≤ 200) (hb : ∀ k, k < σ 501 0 → σ 511 k < 2 ^ 31 ∧ σ 512 k < 2 ^ 31) {t n : Nat} (ht : t < 2 ^ 31) (hn : n < 2 ^ 31) : (∃ k, k < σ 501 0 ∧ σ 511 k = t ∧ σ 512 k = n ∧ F_M_told (ad 100 0) (nI t) (nI n) mm = some (nI k, mm)) ∨ ((∀ k, k < σ 501 0 → ¬ (σ 511 k = t ∧ σ 512 k = n)) ∧ F_M_told (ad 100 0) (nI t) (nI n) mm = some (-1, mm)) := by
  unfold F_M_told
  obtain ⟨f, hf, hfe⟩ := gF_big
  rw [hfe]
  exact told_loop h hN hb ht hn (K := fun p3 mm => some (p3, mm)) (σ 501 0) 0 f (-1) (by omega) (by omega) (Or.inr ⟨fun k hk => by omega, rfl⟩)
theorem inb_loop (h : Rep n0 σ τ ad mm) {t n : Nat} (ht : t < 8) (hn : n < 2 ^ 31) (h6 : σ 524 t ≤ 6) (hb : ∀ b, b < σ 524 t → σ 525 (t * 6 + b) < 2 ^ 31 ∧ σ 526 (t * 6 + b) < 2 ^ 31) {K : Int32 → gM → Option (Int32 × gM)} (d : Nat) : ∀ (j f : Nat) (acc : Int32), j + d = σ 524 t → d < f → (((∃ b, b < j ∧ σ 525 (t * 6 + b) ≤ n ∧ n ≤ σ 526 (t * 6 + b)) ∧ acc = 1) ∨ (¬ (∃ b, b < j ∧ σ 525 (t * 6 + b) ≤ n ∧ n ≤ σ 526 (t * 6 + b)) ∧ acc = 0)) →
    (inM σ t n ∧ L_M_inBlock_5 K f (some (ad 100 0)) (nI t) (nI n) acc (nI j) mm = K 1 mm) ∨ (¬ inM σ t n ∧ L_M_inBlock_5 K f (some (ad 100 0)) (nI t) (nI n) acc (nI j) mm = K 0 mm) := by
  induction d with
  | zero =>
    intro j f acc hj hf ha
    obtain ⟨f, rfl⟩ : ∃ g, f = g + 1 := ⟨f - 1, by omega⟩
    have : j = σ 524 t := by omega
    subst this
    rw [L_M_inBlock_5]
    simp only [h.xM, gb1_some, h.a524 ht]
    rw [if_pos (nI_le (by omega) (by omega))]
    rcases ha with ⟨a, rfl⟩ | ⟨a, rfl⟩
    · exact Or.inl ⟨a, rfl⟩
    · exact Or.inr ⟨a, rfl⟩
  | succ d ih =>
    intro j f acc hj hf ha
    obtain ⟨f, rfl⟩ : ∃ g, f = g + 1 := ⟨f - 1, by omega⟩
    obtain ⟨b1, b2⟩ := hb j (by omega)
    rw [L_M_inBlock_5]
    simp only [h.xM, gb1_some, h.a524 ht, ix6, h.a525 (j := t * 6 + j) (by omega), h.a526 (j := t * 6 + j) (by omega), gLet_eq, nI_1]
    rw [if_neg (nI_ge (by omega) (by omega))]
    rcases ha with ⟨⟨b, a1, a2⟩, rfl⟩ | ⟨a, rfl⟩
    · rw [if_neg (by decide)]
      exact ih (j + 1) f _ (by omega) (by omega) (Or.inl ⟨⟨b, by omega, a2⟩, rfl⟩)
    · rw [if_pos rfl]
      have no : ¬ (σ 525 (t * 6 + j) ≤ n ∧ n ≤ σ 526 (t * 6 + j)) → ¬ ∃ b, b < j + 1 ∧ σ 525 (t * 6 + b) ≤ n ∧ n ≤ σ 526 (t * 6 + b) := by
        rintro hz ⟨b, c1, c2⟩
        by_cases e : b = j
        · subst e; exact hz c2
        · exact a ⟨b, by omega, c2⟩
      by_cases z1 : n < σ 525 (t * 6 + j)
      · rw [if_pos (nI_lt z1 b1)]
        exact ih (j + 1) f _ (by omega) (by omega) (Or.inr ⟨no (fun w => by omega), rfl⟩)
      · rw [if_neg (nI_nlt (by omega) hn)]
        by_cases z2 : σ 526 (t * 6 + j) < n
        · rw [if_pos (nI_lt z2 hn)]
          exact ih (j + 1) f _ (by omega) (by omega) (Or.inr ⟨no (fun w => by omega), rfl⟩)
        · rw [if_neg (nI_nlt (by omega) b2)]
          exact ih (j + 1) f _ (by omega) (by omega) (Or.inl ⟨⟨j, by omega, by omega, by omega⟩, rfl⟩)
theorem M_inBlock (h : Rep n0 σ τ ad mm) {t n : Nat} (ht : t < 8) (hn : n < 2 ^ 31) (h6 : σ 524 t ≤ 6) (hb : ∀ b, b < σ 524 t → σ 525 (t * 6 + b) < 2 ^ 31 ∧ σ 526 (t * 6 + b) < 2 ^ 31) : (inM σ t n ∧ F_M_inBlock (ad 100 0) (nI t) (nI n) mm = some (1, mm)) ∨ (¬ inM σ t n ∧ F_M_inBlock (ad 100 0) (nI t) (nI n) mm = some (0, mm)) := by
  unfold F_M_inBlock
  obtain ⟨f, hf, hfe⟩ := gF_big
  rw [hfe]
  rcases inb_loop h ht hn h6 hb (K := fun p3 mm => gIf (p3 = 0 ∨ p3 = 1) (some (p3, mm))) (σ 524 t) 0 f 0 (by omega) (by omega) (Or.inr ⟨fun ⟨b, c, _⟩ => by omega, rfl⟩) with ⟨a, b⟩ | ⟨a, b⟩
  · rw [show nI 0 = (0 : Int32) from rfl] at b
    rw [b, gIf_pos (Or.inr rfl)]
    exact Or.inl ⟨a, rfl⟩
  · rw [show nI 0 = (0 : Int32) from rfl] at b
    rw [b, gIf_pos (Or.inl rfl)]
    exact Or.inr ⟨a, rfl⟩
/-! the class's search -/
theorem rek_told (t : Nat) : rek (3 + t) = 10 := by
  rw [Nat.add_comm]
  rfl
theorem S_tget (h : Rep n0 σ τ ad mm) {t j : Nat} (ht : t < σ 42 1) (hj : j < σ 40 (3 + t)) : F_AL_get (ad 1 (3 + t)) (nI j) mm = some (some (ad 10 (σ 41 ((3 + t) * 1000 + j))), mm) := by
  have := h.get (l := 3 + t) (j := j) (by omega) hj
  rw [rek_told] at this
  exact this
theorem place_loop (h : Rep n0 σ τ ad mm) (hI : Inv σ τ) {t w : Nat} (ht : t < σ 500 0) (hw : w < 2 ^ 31) {K : Int32 → gM → Option (Int32 × gM)} (m : Nat) : ∀ (lo hi f : Nat), hi - lo ≤ m → m < f → lo ≤ hi → hi ≤ σ 40 (3 + t) → (∀ j, j < lo → σ 6 (σ 41 ((3 + t) * 1000 + j)) < w) → (∀ j, hi ≤ j → j < σ 40 (3 + t) → w ≤ σ 6 (σ 41 ((3 + t) * 1000 + j))) →
    ∃ p, p ≤ σ 40 (3 + t) ∧ (∀ j, j < p → σ 6 (σ 41 ((3 + t) * 1000 + j)) < w) ∧ (∀ j, p ≤ j → j < σ 40 (3 + t) → w ≤ σ 6 (σ 41 ((3 + t) * 1000 + j))) ∧ L_Teller_placeOf_10 K f (some (ad 11 t)) (nI w) (nI lo) (nI hi) mm = K (nI p) mm := by
  obtain ⟨h0, h1, h2, h3, h4, h5, h6, h7, h8, h9⟩ := id hI
  obtain ⟨e1, e2, e3, e4, e5, e6, -⟩ := id h0
  have hlen := h5.2.2.2.1 t
  induction m with
  | zero =>
    intro lo hi f hm hf hl hh a1 a2
    obtain ⟨f, rfl⟩ : ∃ g, f = g + 1 := ⟨f - 1, by omega⟩
    have : lo = hi := by omega
    subst this
    refine ⟨lo, hh, a1, a2, ?_⟩
    rw [L_Teller_placeOf_10, if_pos (nI_le (by omega) (by omega))]
  | succ m ih =>
    intro lo hi f hm hf hl hh a1 a2
    obtain ⟨f, rfl⟩ : ∃ g, f = g + 1 := ⟨f - 1, by omega⟩
    rcases Nat.lt_or_ge lo hi with z | z
    · rw [L_Teller_placeOf_10, if_neg (nI_ge z (by omega))]
      have hmid : (((nI lo + nI hi)).toUInt32 >>> (((1 : Int32)).toUInt32 &&& Int32.toUInt32 31)).toInt32 = nI ((lo + hi) / 2) := by
        rw [nI_add, pk_ushrN (by omega) 1 1 (by decide), Nat.pow_one]
      obtain ⟨k1, k2⟩ := h5.2.2.2.2.1 t ((lo + hi) / 2) (by omega)
      have kb := (h4.1 _ k1).2.2.2.2.1
      simp only [hmid, gLet_eq, h.xTr (t := t) (by omega), gb1_some, S_tget h (t := t) (j := (lo + hi) / 2) (by omega) (by omega), gb2_some, h.xTl (k := σ 41 ((3 + t) * 1000 + (lo + hi) / 2)) (by omega), nI_1]
      have srt := h5.2.2.2.2.2.1 t
      by_cases y : w ≤ σ 6 (σ 41 ((3 + t) * 1000 + (lo + hi) / 2))
      · rw [if_pos (nI_le y (by omega))]
        refine ih lo ((lo + hi) / 2) f (by omega) (by omega) (by omega) (by omega) a1 (fun j j1 j2 => ?_)
        rcases Nat.lt_or_ge ((lo + hi) / 2) j with q | q
        · have := srt j ((lo + hi) / 2) q j2
          omega
        · have : j = (lo + hi) / 2 := by omega
          subst this
          exact y
      · rw [if_neg (nI_ge (by omega) (by omega))]
        refine ih ((lo + hi) / 2 + 1) hi f (by omega) (by omega) (by omega) hh (fun j j1 => ?_) a2
        rcases Nat.lt_or_ge j ((lo + hi) / 2) with q | q
        · have := srt ((lo + hi) / 2) j q (by omega)
          omega
        · have : j = (lo + hi) / 2 := by omega
          subst this
          omega
    · have : lo = hi := by omega
      subst this
      refine ⟨lo, hh, a1, a2, ?_⟩
      rw [L_Teller_placeOf_10, if_pos (nI_le (by omega) (by omega))]
theorem S_placeOf (h : Rep n0 σ τ ad mm) (hI : Inv σ τ) {t w : Nat} (ht : t < σ 500 0) (hw : w < 2 ^ 31) : ∃ p, p ≤ σ 40 (3 + t) ∧ (∀ j, j < p → σ 6 (σ 41 ((3 + t) * 1000 + j)) < w) ∧ (∀ j, p ≤ j → j < σ 40 (3 + t) → w ≤ σ 6 (σ 41 ((3 + t) * 1000 + j))) ∧ F_Teller_placeOf (ad 11 t) (nI w) mm = some (nI p, mm) := by
  obtain ⟨e1, e2, e3, e4, e5, e6, -⟩ := id hI.1
  have hlen := hI.2.2.2.2.2.1.2.2.2.1 t
  unfold F_Teller_placeOf
  obtain ⟨f, hf, hfe⟩ := gF_big
  rw [hfe]
  simp only [h.xTr (t := t) (by omega), gb1_some, h.size (l := 3 + t) (by omega), gb2_some]
  exact place_loop h hI ht hw (K := fun p2 mm => some (p2, mm)) (σ 40 (3 + t)) 0 (σ 40 (3 + t)) f (by omega) (by omega) (by omega) (by omega) (fun j hj => by omega) (fun j j1 j2 => by omega)
theorem S_toldWith (h : Rep n0 σ τ ad mm) (hI : Inv σ τ) {t w : Nat} (ht : t < σ 500 0) (hw : w < 2 ^ 31) : (∃ k, k < σ 501 0 ∧ σ 4 k = t ∧ σ 6 k = w ∧ F_Teller_toldWith (ad 11 t) (nI w) mm = some (some (ad 10 k), mm)) ∨ (¬ tld σ t w ∧ F_Teller_toldWith (ad 11 t) (nI w) mm = some (none, mm)) := by
  obtain ⟨h0, h1, h2, h3, h4, h5, h6, h7, h8, h9⟩ := id hI
  obtain ⟨e1, e2, e3, e4, e5, e6, -⟩ := id h0
  have hlen := h5.2.2.2.1 t
  obtain ⟨p, p1, p2, p3, p4⟩ := S_placeOf h hI ht hw
  unfold F_Teller_toldWith
  simp only [h.xTr (t := t) (by omega), gb1_some, p4, gb2_some, h.size (l := 3 + t) (by omega)]
  have no : (∀ j, j < σ 40 (3 + t) → σ 6 (σ 41 ((3 + t) * 1000 + j)) ≠ w) → ¬ tld σ t w := by
    rintro hz ⟨k, k1, rfl, k3⟩
    obtain ⟨j, j1, j2⟩ := h5.2.2.2.2.2.2 k k1
    exact hz j j1 (by rw [j2]; exact k3)
  rcases Nat.lt_or_ge p (σ 40 (3 + t)) with z | z
  · rw [if_pos (nI_lt z (by omega))]
    obtain ⟨k1, k2⟩ := h5.2.2.2.2.1 t p z
    have kb := (h4.1 _ k1).2.2.2.2.1
    simp only [S_tget h (t := t) (j := p) (by omega) z, gb2_some, h.xTl (k := σ 41 ((3 + t) * 1000 + p)) (by omega), gb1_some]
    by_cases y : σ 6 (σ 41 ((3 + t) * 1000 + p)) = w
    · left
      refine ⟨_, k1, k2, y, ?_⟩
      rw [if_pos (by rw [y])]
    · right
      rw [if_neg (fun q => y ((nI_eq (by omega) hw).mp q))]
      refine ⟨no (fun j hj => ?_), rfl⟩
      rcases Nat.lt_trichotomy j p with q | q | q
      · have := p2 j q; omega
      · subst q; exact y
      · have := h5.2.2.2.2.2.1 t j p q hj
        have := p3 p (by omega) z
        omega
  · right
    rw [if_neg (nI_nlt (by omega) (by omega))]
    exact ⟨no (fun j hj => by have := p2 j (by omega); omega), rfl⟩
end TO
