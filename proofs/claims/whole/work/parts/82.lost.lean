/-! lost -/
def lsn (σ : Nat → Nat → Nat) (t n : Nat) : Prop := ¬ inM σ t n ∧ ¬ tld σ t n
def stn (σ : Nat → Nat → Nat) (t G n : Nat) : Prop := 1 ≤ n ∧ n < G ∧ lsn σ t n ∧ (n = 1 ∨ ¬ lsn σ t (n - 1))
section LO
variable {n0 : Nat} {σ σ' σ'' : Nat → Nat → Nat} {τ τ' τ'' : Nat → Nat → Int64} {ad : Nat → Nat → Nat} {mm : gM}
theorem st_g (σ : Nat → Nat → Nat) (t G : Nat) : ∃ u : Nat → Nat, ∀ c, u c ≤ 1 ∧ (u c = 1 ↔ stn σ t G c) := by
  have key : ∀ c, ∃ x : Nat, x ≤ 1 ∧ (x = 1 ↔ stn σ t G c) := by
    intro c
    rcases Classical.em (stn σ t G c) with z | z
    · exact ⟨1, by omega, ⟨fun _ => z, fun _ => rfl⟩⟩
    · exact ⟨0, by omega, ⟨fun w => by omega, fun w => absurd w z⟩⟩
  exact ⟨fun c => Classical.choose (key c), fun c => Classical.choose_spec (key c)⟩
theorem sm_flat {u : Nat → Nat} (a d : Nat) (h : ∀ m, a ≤ m → m < a + d → u m = 0) : sm u (a + d) = sm u a := by
  induction d with
  | zero => rfl
  | succ d ih =>
    show sm u (a + d) + u (a + d) = _
    rw [ih (fun m h1 h2 => h m h1 (by omega)), h (a + d) (by omega) (by omega)]
    rfl
/-- over a run: one more -/
theorem sm_run {σ : Nat → Nat → Nat} {t G : Nat} {u : Nat → Nat} (hu : ∀ c, u c ≤ 1 ∧ (u c = 1 ↔ stn σ t G c)) {s n : Nat} (hs : stn σ t G s) (hsn : s < n) (hr : ∀ m, s ≤ m → m < n → lsn σ t m) : sm u n = sm u s + 1 := by
  have h1 : sm u (s + 1) = sm u s + 1 := by
    show sm u s + u s = _
    rw [(hu s).2.mpr hs]
  have := sm_flat (u := u) (s + 1) (n - (s + 1)) (fun m m1 m2 => by
    have b := (hu m).1
    refine Classical.byContradiction (fun w => ?_)
    have := (hu m).2.mp (by omega)
    rcases this.2.2.2 with z | z
    · have := hs.1; omega
    · exact z (hr (m - 1) (by omega) (by omega)))
  rw [show s + 1 + (n - (s + 1)) = n by omega] at this
  omega
theorem run_start {σ : Nat → Nat → Nat} {t : Nat} (m : Nat) : 1 ≤ m → lsn σ t m → ∃ s, 1 ≤ s ∧ s ≤ m ∧ (s = 1 ∨ ¬ lsn σ t (s - 1)) ∧ ∀ j, s ≤ j → j ≤ m → lsn σ t j := by
  induction m with
  | zero => intro h; omega
  | succ m ih =>
    intro h1 hl
    rcases Nat.eq_zero_or_pos m with z | z
    · subst z
      exact ⟨1, by omega, by omega, Or.inl rfl, fun j j1 j2 => by rw [show j = 0 + 1 by omega]; exact hl⟩
    · rcases Classical.em (lsn σ t m) with w | w
      · obtain ⟨s, s1, s2, s3, s4⟩ := ih z w
        refine ⟨s, s1, by omega, s3, fun j j1 j2 => ?_⟩
        by_cases e : j = m + 1
        · rw [e]; exact hl
        · exact s4 j j1 (by omega)
      · exact ⟨m + 1, by omega, by omega, Or.inr (by rw [Nat.add_sub_cancel]; exact w), fun j j1 j2 => by rw [show j = m + 1 by omega]; exact hl⟩
theorem run_end {σ : Nat → Nat → Nat} {t G : Nat} (hG : tld σ t G) (d : Nat) : ∀ s, s + d = G → lsn σ t s → ∃ l, s ≤ l ∧ l < G ∧ (∀ m, s ≤ m → m ≤ l → lsn σ t m) ∧ ¬ lsn σ t (l + 1) := by
  induction d with
  | zero =>
    intro s hs hl
    rw [show s = G by omega] at hl
    exact absurd hG hl.2
  | succ d ih =>
    intro s hs hl
    rcases Classical.em (lsn σ t (s + 1)) with w | w
    · obtain ⟨l, l1, l2, l3, l4⟩ := ih (s + 1) (by omega) w
      refine ⟨l, by omega, l2, fun m m1 m2 => ?_, l4⟩
      by_cases e : m = s
      · rw [e]; exact hl
      · exact l3 m (by omega) m2
    · exact ⟨s, by omega, by omega, fun m m1 m2 => by rw [show m = s by omega]; exact hl, w⟩
theorem sm_inj2 {g : Nat → Nat} (hg : ∀ c, g c ≤ 1) {x y : Nat} (hx : x < 2 ^ 31) (hy : y < 2 ^ 31) (gx : g x = 1) (gy : g y = 1) (h : nI (sm g x) = nI (sm g y)) : x = y := by
  have b1 := sm_le (g := g) (n := x) (fun i _ => hg i)
  have b2 := sm_le (g := g) (n := y) (fun i _ => hg i)
  have e := (nI_eq (by omega) (by omega)).mp h
  rcases Nat.lt_trichotomy x y with z | z | z
  · have := sm_mono g (x + 1) (y - x - 1)
    rw [show x + 1 + (y - x - 1) = y by omega] at this
    have : sm g (x + 1) = sm g x + g x := rfl
    omega
  · exact z
  · have := sm_mono g (y + 1) (x - y - 1)
    rw [show y + 1 + (x - y - 1) = x by omega] at this
    have : sm g (y + 1) = sm g y + g y := rfl
    omega
theorem around_loop (h : Rep n0 σ τ ad mm) (h9 : I9 σ) {t n : Nat} (ht : t < σ 42 1) (hn : n < 2 ^ 31) {K1 : Option Nat → Int32 → gM → Option (Int32 × gM)} {K0 : Int32 → gM → Option (Int32 × gM)} (d : Nat) : ∀ (i f : Nat), i + d = σ 11 t → d < f → (∀ j, j < i → ¬ inb σ t n j) →
    (∃ j, inb σ t n j ∧ L_Blocks_lastAround_2 K1 K0 f (some (ad 12 t)) (nI n) (nI i) mm = K1 (some (ad 12 t)) (nI j) mm) ∨ ((∀ j, ¬ inb σ t n j) ∧ L_Blocks_lastAround_2 K1 K0 f (some (ad 12 t)) (nI n) (nI i) mm = K0 (nI n) mm) := by
  have h6 := (h9.1 t).2
  induction d with
  | zero =>
    intro i f hi hf ha
    obtain ⟨f, rfl⟩ : ∃ g, f = g + 1 := ⟨f - 1, by omega⟩
    right
    refine ⟨fun j w => ha j (by have := w.1; omega) w, ?_⟩
    rw [L_Blocks_lastAround_2]
    simp only [h.xTr ht, gb1_some]
    rw [if_pos (nI_le (by omega) (by omega))]
  | succ d ih =>
    intro i f hi hf ha
    obtain ⟨f, rfl⟩ : ∃ g, f = g + 1 := ⟨f - 1, by omega⟩
    obtain ⟨b1, b2, b3, b4, b5⟩ := h9.2.1 t i (by omega)
    have go : ¬ inb σ t n i → ∀ j, j < i + 1 → ¬ inb σ t n j := fun hz j hj => by
      by_cases e : j = i
      · subst e; exact hz
      · exact ha j (by omega)
    rw [L_Blocks_lastAround_2]
    simp only [h.xTr ht, gb1_some, h.a20 ht (j := i) (by omega), h.a21 ht (j := i) (by omega), gLet_eq, nI_1]
    rw [if_neg (nI_ge (by omega) (by omega))]
    by_cases z1 : n < σ 20 (t * 6 + i)
    · rw [if_pos (nI_lt z1 (by omega))]
      exact ih (i + 1) f (by omega) (by omega) (go (fun w => by have := w.2.1; omega))
    · rw [if_neg (nI_nlt (by omega) hn)]
      by_cases z2 : σ 21 (t * 6 + i) < n
      · rw [if_pos (nI_lt z2 hn)]
        exact ih (i + 1) f (by omega) (by omega) (go (fun w => by have := w.2.2; omega))
      · rw [if_neg (nI_nlt (by omega) (by omega))]
        exact Or.inl ⟨i, ⟨by omega, by omega, by omega⟩, rfl⟩
theorem S_around (h : Rep n0 σ τ ad mm) (h9 : I9 σ) {t n : Nat} (ht : t < σ 42 1) (hn : n < 2 ^ 31) : ∃ a, n ≤ a ∧ (a = n ∨ a ≤ 9999) ∧ F_Blocks_lastAround (ad 12 t) (nI n) mm = some (nI a, mm) ∧ (((∀ i, ¬ inb σ t n i) ∧ a = n) ∨ ((∃ i, inb σ t n i) ∧ ∀ m, n ≤ m → m ≤ a → ∃ i, inb σ t m i)) := by
  unfold F_Blocks_lastAround
  obtain ⟨f, hf, hfe⟩ := gF_big
  rw [hfe]
  have h6 := (h9.1 t).2
  rcases around_loop h h9 ht hn (K1 := fun p0 p2 mm => gb1 (gfR 2 1 p0 mm) fun v16 => gb1 (gaI 0 v16 p2 mm) fun v18 => some (v18, mm)) (K0 := fun p1 mm => some (p1, mm)) (σ 11 t) 0 f (by omega) (by omega) (fun j hj => by omega) with ⟨j, j1, j2⟩ | ⟨y1, y2⟩
  · have jc := j1.1
    obtain ⟨b1, b2, b3, b4, b5⟩ := h9.2.1 t j jc
    refine ⟨σ 21 (t * 6 + j), j1.2.2, Or.inr (by omega), ?_, Or.inr ⟨⟨j, j1⟩, fun m m1 m2 => ⟨j, jc, by have := j1.2.1; omega, m2⟩⟩⟩
    rw [show (0 : Int32) = nI 0 from rfl, j2]
    simp only [h.xTr ht, gb1_some, h.a21 ht (j := j) (by omega)]
  · exact ⟨n, by omega, Or.inl rfl, y2, Or.inl ⟨y1, rfl⟩⟩
theorem S_lastLost (h : Rep n0 σ τ ad mm) (hI : Inv σ τ) {t n G : Nat} (ht : t < σ 500 0) (hn1 : 1 ≤ n) (hnG : n < G) (hG : tld σ t G) : ∃ l, n ≤ l + 1 ∧ l < G ∧ (∀ m, n ≤ m → m ≤ l → lsn σ t m) ∧ ¬ lsn σ t (l + 1) ∧ F_Teller_lastLostFrom (ad 11 t) (nI n) mm = some (nI l, mm) := by
  obtain ⟨h0, h1, h2, h3, h4, h5, h6, h7, h8, h9⟩ := id hI
  obtain ⟨e1, e2, e3, e4, e5, e6, -⟩ := id h0
  have hlen := h5.2.2.2.1 t
  obtain ⟨k, k1, k2, k3⟩ := id hG
  have hG9 : G ≤ 9999 := by have := (h4.1 k k1).2.2.2.2.1; omega
  obtain ⟨p, p1, p2, p3, p4⟩ := S_placeOf h hI ht (w := n) (by omega)
  obtain ⟨x, x1, x2, x3, x4, x5⟩ := S_firstFrom h h9 (t := t) (n := n) (by omega) (by omega)
  obtain ⟨j, j1, j2⟩ := h5.2.2.2.2.2.2 k k1
  rw [k2] at j1 j2
  have hp : p < σ 40 (3 + t) := by
    rcases Nat.lt_or_ge p (σ 40 (3 + t)) with w | w
    · exact w
    · have := p2 j (by omega)
      rw [j2] at this
      omega
  obtain ⟨q1, q2⟩ := h5.2.2.2.2.1 t p hp
  have qn := h4.1 _ q1
  have qb := p3 p (Nat.le_refl _) hp
  have hbG : σ 6 (σ 41 ((3 + t) * 1000 + p)) ≤ G := by
    rcases Nat.lt_trichotomy p j with w | w | w
    · have := h5.2.2.2.2.2.1 t j p w j1
      rw [j2] at this
      omega
    · subst w
      rw [j2]
      omega
    · have := p2 j w
      rw [j2] at this
      omega
  have hno : ∀ m, n ≤ m → m < σ 6 (σ 41 ((3 + t) * 1000 + p)) → ¬ tld σ t m := by
    rintro m m1 m2 ⟨k', a1, a2, a3⟩
    obtain ⟨j', b1, b2⟩ := h5.2.2.2.2.2.2 k' a1
    rw [a2] at b1 b2
    rcases Nat.lt_trichotomy j' p with w | w | w
    · have := p2 j' w
      rw [b2] at this
      omega
    · subst w
      rw [b2] at m2
      omega
    · have := h5.2.2.2.2.2.1 t j' p w b1
      rw [b2] at this
      omega
  obtain ⟨l, hl⟩ : ∃ l, min (σ 6 (σ 41 ((3 + t) * 1000 + p))) x = l + 1 := ⟨min (σ 6 (σ 41 ((3 + t) * 1000 + p))) x - 1, by omega⟩
  refine ⟨l, by omega, by omega, fun m m1 m2 => ⟨fun w => ?_, hno m m1 (by omega)⟩, fun w => ?_, ?_⟩
  · obtain ⟨i, hi⟩ := (h9.2.2.2.2.1 t m).mp w
    exact x5 m i m1 (by omega) hi
  · rcases Nat.lt_or_ge x (σ 6 (σ 41 ((3 + t) * 1000 + p))) with z | z
    · rcases x4 with ⟨i, hi⟩ | y
      · exact w.1 ((h9.2.2.2.2.1 t (l + 1)).mpr ⟨i, by rw [← hl, Nat.min_eq_right (by omega)]; exact hi⟩)
      · omega
    · exact w.2 ⟨_, q1, q2, by rw [← hl, Nat.min_eq_left (by omega)]⟩
  · unfold F_Teller_lastLostFrom
    simp only [gLet_eq, h.xTr (t := t) (by omega), gb1_some, p4, gb2_some, h.size (l := 3 + t) (by omega)]
    rw [if_neg (nI_ge hp (by omega))]
    simp only [S_tget h (t := t) (j := p) (by omega) hp, gb2_some, gb1_some, h.xTl (k := σ 41 ((3 + t) * 1000 + p)) (by omega), h.xTr (t := t) (by omega), x3]
    have : (if nI x < nI (σ 6 (σ 41 ((3 + t) * 1000 + p))) then nI x else nI (σ 6 (σ 41 ((3 + t) * 1000 + p)))) = nI (l + 1) := by
      by_cases z : x < σ 6 (σ 41 ((3 + t) * 1000 + p))
      · rw [if_pos (nI_lt z (by omega)), ← hl, Nat.min_eq_right (by omega)]
      · rw [if_neg (nI_nlt (by omega) (by omega)), ← hl, Nat.min_eq_left (by omega)]
    rw [this, nI_pred]
theorem S_span (h : Rep n0 σ τ ad mm) (hI : Inv σ τ) {t G : Nat} (ht : t < σ 500 0) (hG : tld σ t G ∨ G = 0) {u : Nat → Nat} (hu : ∀ c, u c ≤ 1 ∧ (u c = 1 ↔ stn σ t G c)) (k e : Int32) {K1 : Int32 → Int32 → Int32 → gM → Option (Int32 × gM)} {K0 : gM → Option (Int32 × gM)} (d : Nat) : ∀ (n f : Nat), G ≤ n + d → d < f → 1 ≤ n → n ≤ 10000 → (lsn σ t n → n = 1 ∨ ¬ lsn σ t (n - 1)) → (∀ s, s < n → stn σ t G s → k ≠ nI (sm u s)) →
    (∃ s l, stn σ t G s ∧ k = nI (sm u s) ∧ s ≤ l ∧ l < G ∧ (∀ m, s ≤ m → m ≤ l → lsn σ t m) ∧ ¬ lsn σ t (l + 1) ∧ L_Teller_endOfLostSpan_43 K1 K0 f (some (ad 11 t)) k e (nI G) (nI (sm u n)) (nI n) mm = K1 e (nI s) (nI l) mm) ∨ ((∀ s, stn σ t G s → k ≠ nI (sm u s)) ∧ L_Teller_endOfLostSpan_43 K1 K0 f (some (ad 11 t)) k e (nI G) (nI (sm u n)) (nI n) mm = K0 mm) := by
  obtain ⟨h0, h1, h2, h3, h4, h5, h6, h7, h8, h9⟩ := id hI
  obtain ⟨e1, e2, e3, e4, e5, e6, -⟩ := id h0
  have hG9 : G ≤ 9999 := by
    rcases hG with ⟨k, k1, k2, k3⟩ | z
    · have := (h4.1 k k1).2.2.2.2.1; omega
    · omega
  have stop : ∀ n f, G ≤ n → n ≤ 10000 → (∀ s, s < n → stn σ t G s → k ≠ nI (sm u s)) → (∀ s, stn σ t G s → k ≠ nI (sm u s)) ∧ L_Teller_endOfLostSpan_43 K1 K0 (f + 1) (some (ad 11 t)) k e (nI G) (nI (sm u n)) (nI n) mm = K0 mm := by
    intro n f hn hn2 hh
    refine ⟨fun s hs => hh s (by have := hs.2.1; omega) hs, ?_⟩
    rw [L_Teller_endOfLostSpan_43, if_pos (nI_le hn (by omega))]
  induction d with
  | zero =>
    intro n f hn hf hn1 hn2 hb hh
    obtain ⟨f, rfl⟩ : ∃ g, f = g + 1 := ⟨f - 1, by omega⟩
    exact Or.inr (stop n f (by omega) hn2 hh)
  | succ d ih =>
    intro n f hn hf hn1 hn2 hb hh
    obtain ⟨f, rfl⟩ : ∃ g, f = g + 1 := ⟨f - 1, by omega⟩
    rcases Nat.lt_or_ge n G with z | z
    · have hGt : tld σ t G := hG.resolve_right (by omega)
      obtain ⟨l, l1, l2, l3, l4, l5⟩ := S_lastLost h hI ht hn1 z hGt
      obtain ⟨a, a1, a2, a3, a4⟩ := S_around h h9 (t := t) (n := n) (by omega) (by omega)
      have hsl := sm_le (g := u) (n := n) (fun i _ => (hu i).1)
      rw [L_Teller_endOfLostSpan_43, if_neg (nI_ge z (by omega))]
      simp only [gLet_eq, h.xTr (t := t) (by omega), gb1_some, l5, gb2_some, a3]
      have mx : ∀ x y : Nat, x < 2 ^ 31 → y < 2 ^ 31 → (if nI x < nI y then nI y else nI x) = nI (max x y) := by
        intro x y hx hy
        by_cases w : x < y
        · rw [if_pos (nI_lt w hy), Nat.max_eq_right (by omega)]
        · rw [if_neg (nI_nlt (by omega) hx), Nat.max_eq_left (by omega)]
      rw [mx l a (by omega) (by omega), mx n (max l a) (by omega) (by omega), nI_1]
      rcases Nat.lt_or_ge l n with w | w
      · have hln : l + 1 = n := by omega
        rw [hln] at l4
        rw [if_pos (nI_lt w (by omega)), show max n (max l a) = a by omega]
        have flat : ∀ m, n ≤ m → m < n + (a + 1 - n) → u m = 0 := by
          intro m m1 m2
          have b := (hu m).1
          refine Classical.byContradiction (fun q => ?_)
          have hs := (hu m).2.mp (by omega)
          rcases a4 with ⟨_, y⟩ | ⟨_, y⟩
          · have : m = n := by omega
            subst this
            exact l4 hs.2.2.1
          · exact hs.2.2.1.1 ((h9.2.2.2.2.1 t m).mpr (y m m1 (by omega)))
        have hsm := sm_flat n (a + 1 - n) flat
        rw [show n + (a + 1 - n) = a + 1 by omega] at hsm
        have hla : ¬ lsn σ t a := by
          rcases a4 with ⟨_, y⟩ | ⟨_, y⟩
          · rw [y]; exact l4
          · exact fun q => q.1 ((h9.2.2.2.2.1 t a).mpr (y a a1 (Nat.le_refl _)))
        rw [← hsm]
        refine ih (a + 1) f (by omega) (by omega) (by omega) (by omega) (fun _ => Or.inr (by rw [Nat.add_sub_cancel]; exact hla)) (fun s hs hst => ?_)
        rcases Nat.lt_or_ge s n with q | q
        · exact hh s q hst
        · have := flat s q (by omega)
          have := (hu s).2.mpr hst
          omega
      · rw [if_neg (nI_nlt w (by omega))]
        have hls := l3 n (Nat.le_refl _) w
        have hst : stn σ t G n := ⟨hn1, z, hls, hb hls⟩
        by_cases y : nI (sm u n) = k
        · rw [if_pos y]
          exact Or.inl ⟨n, l, hst, y.symm, w, l2, l3, l4, rfl⟩
        · rw [if_neg y, nI_1]
          have han : a = n := by
            rcases a4 with ⟨_, q⟩ | ⟨q, _⟩
            · exact q
            · exact absurd ((h9.2.2.2.2.1 t n).mpr q) hls.1
          rw [show max n (max l a) = l by omega, ← sm_run hu hst (n := l + 1) (by omega) (fun m m1 m2 => l3 m m1 (by omega))]
          refine ih (l + 1) f (by omega) (by omega) (by omega) (by omega) (fun q => absurd q l4) (fun s hs hss => ?_)
          rcases Nat.lt_trichotomy s n with q | q | q
          · exact hh s q hss
          · subst q
            exact fun v => y v.symm
          · rcases hss.2.2.2 with v | v
            · omega
            · exact absurd (l3 (s - 1) (by omega) (by omega)) v
    · exact Or.inr (stop n f z hn2 hh)
end LO
