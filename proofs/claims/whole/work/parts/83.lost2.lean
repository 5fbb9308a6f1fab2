section LP
variable {n0 : Nat} {σ σ' σ'' : Nat → Nat → Nat} {τ τ' τ'' : Nat → Nat → Int64} {ad : Nat → Nat → Nat} {mm : gM}
theorem great_loop (h : Rep n0 σ τ ad mm) (hI : Inv σ τ) {t : Nat} (ht : t < σ 500 0) (p2 p3 : Int32) {K : Option Nat → Int32 → Int32 → Int32 → Int32 → gM → Option (Int32 × gM)} (d : Nat) : ∀ (j f g : Nat), j + d = σ 501 0 → d < f → g < 10000 → ((∃ k, k < j ∧ σ 4 k = t ∧ σ 6 k = g) ∨ g = 0) → (∀ k, k < j → σ 4 k = t → σ 6 k ≤ g) → ∃ G, (tld σ t G ∨ G = 0) ∧ (∀ n, tld σ t n → n ≤ G) ∧ G < 10000 ∧ L_M_lost_29 K f (some (ad 100 0)) (nI t) p2 p3 (nI g) (nI j) mm = K (some (ad 100 0)) (nI t) p2 p3 (nI G) mm := by
  obtain ⟨e1, e2, e3, e4, e5, e6, -⟩ := id hI.1
  induction d with
  | zero =>
    intro j f g hj hf hg h1 h2
    obtain ⟨f, rfl⟩ : ∃ g, f = g + 1 := ⟨f - 1, by omega⟩
    have : j = σ 501 0 := by omega
    subst this
    refine ⟨g, h1, fun n => ?_, hg, ?_⟩
    · rintro ⟨k, k1, k2, k3⟩
      have := h2 k k1 k2
      omega
    · rw [L_M_lost_29]
      simp only [h.xM, gb1_some]
      rw [if_pos (nI_le (by omega) (by omega))]
  | succ d ih =>
    intro j f g hj hf hg h1 h2
    obtain ⟨f, rfl⟩ : ∃ g, f = g + 1 := ⟨f - 1, by omega⟩
    have mb := hI.mb (k := j) (by omega)
    have h1' : (∃ k, k < j + 1 ∧ σ 4 k = t ∧ σ 6 k = g) ∨ g = 0 := by
      rcases h1 with ⟨k, k1, k2⟩ | w
      · exact Or.inl ⟨k, by omega, k2⟩
      · exact Or.inr w
    rw [L_M_lost_29]
    simp only [h.xM, gb1_some, h.a511 (j := j) (by omega), h.a512 (j := j) (by omega), gLet_eq, nI_1]
    rw [if_neg (nI_ge (by omega) (by omega))]
    by_cases z : σ 511 j = t
    · rw [if_pos (by rw [z])]
      by_cases y : σ 512 j ≤ g
      · rw [if_pos (nI_le y (by omega))]
        exact ih (j + 1) f g (by omega) (by omega) hg h1' (fun k k1 k2 => by
          by_cases e : k = j
          · subst e; omega
          · exact h2 k (by omega) k2)
      · rw [if_neg (nI_ge (by omega) (by omega))]
        exact ih (j + 1) f (σ 512 j) (by omega) (by omega) (by omega) (Or.inl ⟨j, by omega, by omega, by omega⟩) (fun k k1 k2 => by
          by_cases e : k = j
          · subst e; omega
          · have := h2 k (by omega) k2; omega)
    · rw [if_neg (fun w => z ((nI_eq (by omega) (by omega)).mp w))]
      exact ih (j + 1) f g (by omega) (by omega) hg h1' (fun k k1 k2 => by
        by_cases e : k = j
        · subst e; omega
        · exact h2 k (by omega) k2)
theorem nI_eq2 {a b : Nat} (ha : a < 2 ^ 32) (hb : b < 2 ^ 32) : nI a = nI b ↔ a = b := by
  constructor
  · intro h
    have := congrArg (fun x : Int32 => x.toBitVec.toNat) h
    simp only [pk_tn ha, pk_tn hb] at this
    exact this
  · intro h
    rw [h]
theorem M_span (h : Rep n0 σ τ ad mm) (hI : Inv σ τ) {t G : Nat} (ht : t < σ 500 0) (hG : tld σ t G ∨ G = 0) (hG9 : G < 10000) {u : Nat → Nat} (hu : ∀ c, u c ≤ 1 ∧ (u c = 1 ↔ stn σ t G c)) {k : Nat} (hk : k < 2 ^ 31) {e : Nat} (he : e ≤ 1) {KA KB : Int32 → gM → Option (Int32 × gM)} {K0 : gM → Option (Int32 × gM)} (d : Nat) : ∀ (n f b : Nat), n + d = G + 1 → d < f → 1 ≤ n → b ≤ 1 → (b = 1 ↔ (1 < n ∧ lsn σ t (n - 1))) → (e = 0 → ∀ s, s < n → stn σ t G s → k ≠ sm u s) → (e = 1 → ∀ s, s < n → stn σ t G s → k = sm u s → ∀ m, s ≤ m → m < n → lsn σ t m) →
    (∃ s, stn σ t G s ∧ k = sm u s ∧ e = 0 ∧ L_M_lost_90 KA KB K0 f (some (ad 100 0)) (nI t) (nI k) (nI e) (nI G) (nI (sm u n)) (nI b) (nI n) mm = KA (nI s) mm) ∨ (∃ s l, stn σ t G s ∧ k = sm u s ∧ e = 1 ∧ s ≤ l ∧ (∀ m, s ≤ m → m ≤ l → lsn σ t m) ∧ ¬ lsn σ t (l + 1) ∧ l < 10000 ∧ L_M_lost_90 KA KB K0 f (some (ad 100 0)) (nI t) (nI k) (nI e) (nI G) (nI (sm u n)) (nI b) (nI n) mm = KB (nI (l + 1)) mm) ∨ ((∀ s, stn σ t G s → k ≠ sm u s) ∧ L_M_lost_90 KA KB K0 f (some (ad 100 0)) (nI t) (nI k) (nI e) (nI G) (nI (sm u n)) (nI b) (nI n) mm = K0 mm) := by
  obtain ⟨h0, h1, h2, h3, h4, h5, h6, h7, h8, h9⟩ := id hI
  obtain ⟨e1, e2, e3, e4, e5, e6, -⟩ := id h0
  have c6 := (h9.1 t).2
  have ce := (h9.1 t).1
  induction d with
  | zero =>
    intro n f b hn hf hn1 hb hbb H0 H1
    obtain ⟨f, rfl⟩ : ∃ g, f = g + 1 := ⟨f - 1, by omega⟩
    right; right
    refine ⟨fun s hs hks => ?_, ?_⟩
    · have s2 := hs.2.1
      rcases Nat.lt_or_ge e 1 with z | z
      · exact H0 (by omega) s (by omega) hs hks
      · have := H1 (by omega) s (by omega) hs hks G (by omega) (by omega)
        rcases hG with w | w
        · exact this.2 w
        · omega
    · rw [L_M_lost_90, if_pos (nI_lt (by omega) (by omega))]
  | succ d ih =>
    intro n f b hn hf hn1 hb hbb H0 H1
    obtain ⟨f, rfl⟩ : ∃ g, f = g + 1 := ⟨f - 1, by omega⟩
    have hsl := sm_le (g := u) (n := n) (fun i _ => (hu i).1)
    have hGt : tld σ t G := hG.resolve_right (by omega)
    -- telling whether n is lost
    rw [L_M_lost_90, if_neg (nI_nlt (by omega) (by omega))]
    simp only [gLet_eq, h.xM, gb1_some, nI_1]
    have no : ¬ lsn σ t n → u n = 0 := fun w => by
      have := (hu n).1
      refine Classical.byContradiction (fun q => w ?_)
      exact ((hu n).2.mp (by omega)).2.2.1
    have smn : sm u (n + 1) = sm u n + u n := rfl
    -- n isn't lost
    have caseNo : ¬ lsn σ t n → (∃ s, stn σ t G s ∧ k = sm u s ∧ e = 0 ∧ (if nI b = 0 then L_M_lost_90 KA KB K0 f (some (ad 100 0)) (nI t) (nI k) (nI e) (nI G) (nI (sm u n)) 0 (nI (n + 1)) mm else if nI (sm u n) = nI (k + 1) then KB (nI n) mm else L_M_lost_90 KA KB K0 f (some (ad 100 0)) (nI t) (nI k) (nI e) (nI G) (nI (sm u n)) 0 (nI (n + 1)) mm) = KA (nI s) mm) ∨ (∃ s l, stn σ t G s ∧ k = sm u s ∧ e = 1 ∧ s ≤ l ∧ (∀ m, s ≤ m → m ≤ l → lsn σ t m) ∧ ¬ lsn σ t (l + 1) ∧ l < 10000 ∧ (if nI b = 0 then L_M_lost_90 KA KB K0 f (some (ad 100 0)) (nI t) (nI k) (nI e) (nI G) (nI (sm u n)) 0 (nI (n + 1)) mm else if nI (sm u n) = nI (k + 1) then KB (nI n) mm else L_M_lost_90 KA KB K0 f (some (ad 100 0)) (nI t) (nI k) (nI e) (nI G) (nI (sm u n)) 0 (nI (n + 1)) mm) = KB (nI (l + 1)) mm) ∨ ((∀ s, stn σ t G s → k ≠ sm u s) ∧ (if nI b = 0 then L_M_lost_90 KA KB K0 f (some (ad 100 0)) (nI t) (nI k) (nI e) (nI G) (nI (sm u n)) 0 (nI (n + 1)) mm else if nI (sm u n) = nI (k + 1) then KB (nI n) mm else L_M_lost_90 KA KB K0 f (some (ad 100 0)) (nI t) (nI k) (nI e) (nI G) (nI (sm u n)) 0 (nI (n + 1)) mm) = K0 mm) := by
      intro hnl
      have un := no hnl
      have nst : ¬ stn σ t G n := fun w => hnl w.2.2.1
      have i := ih (n + 1) f 0 (by omega) (by omega) (by omega) (by omega)
      rw [smn, un, Nat.add_zero, show nI 0 = (0 : Int32) from rfl, Nat.add_sub_cancel] at i
      have i' := i ⟨fun w => by omega, fun w => absurd w.2 hnl⟩ (fun w s hs hst => by
        by_cases q : s = n
        · subst q; exact absurd hst nst
        · exact H0 w s (by omega) hst)
      rcases Nat.eq_zero_or_pos b with z | z
      · rw [if_pos (show nI b = 0 by rw [z]; rfl)]
        refine i' (fun w s hs hst hks m m1 m2 => ?_)
        have hsn : s < n := by
          rcases Nat.lt_or_ge s n with v | v
          · exact v
          · exact absurd (by rw [show n = s by omega]; exact hst) nst
        have := H1 w s hsn hst hks (n - 1) (by omega) (by omega)
        have := hbb.mpr ⟨by have := hst.1; omega, this⟩
        omega
      · have hb1 : b = 1 := by omega
        obtain ⟨n1, n2⟩ := hbb.mp hb1
        rw [if_neg (show ¬ nI b = 0 by rw [hb1]; decide)]
        obtain ⟨s, s1, s2, s3, s4⟩ := run_start (σ := σ) (t := t) (n - 1) (by omega) n2
        have hst : stn σ t G s := ⟨s1, by omega, s4 s (Nat.le_refl _) s2, s3⟩
        have hrun := sm_run hu hst (n := n) (by omega) (fun m m1 m2 => s4 m m1 (by omega))
        by_cases y : sm u n = k + 1
        · rw [if_pos (by rw [y])]
          have hks : k = sm u s := by omega
          rcases Nat.lt_or_ge e 1 with v | v
          · exact absurd hks (H0 (by omega) s (by omega) hst)
          · exact Or.inr (Or.inl ⟨s, n - 1, hst, hks, by omega, s2, s4, by rw [show n - 1 + 1 = n by omega]; exact hnl, by omega, by rw [show n - 1 + 1 = n by omega]⟩)
        · rw [if_neg (fun w => y ((nI_eq2 (by omega) (by omega)).mp w))]
          refine i' (fun w s' hs' hst' hks' m m1 m2 => ?_)
          have hsn : s' < n := by
            rcases Nat.lt_or_ge s' n with v | v
            · exact v
            · exact absurd (by rw [show n = s' by omega]; exact hst') nst
          have hall := H1 w s' hsn hst' hks'
          have := sm_run hu hst' hsn hall
          omega
    -- n is lost
    have caseYes : lsn σ t n → (∃ s, stn σ t G s ∧ k = sm u s ∧ e = 0 ∧ (if nI b = 0 then (if nI (sm u n) = nI k then (if nI e = 0 then KA (nI n) mm else L_M_lost_90 KA KB K0 f (some (ad 100 0)) (nI t) (nI k) (nI e) (nI G) (nI (sm u n + 1)) 1 (nI (n + 1)) mm) else L_M_lost_90 KA KB K0 f (some (ad 100 0)) (nI t) (nI k) (nI e) (nI G) (nI (sm u n + 1)) 1 (nI (n + 1)) mm) else L_M_lost_90 KA KB K0 f (some (ad 100 0)) (nI t) (nI k) (nI e) (nI G) (nI (sm u n)) 1 (nI (n + 1)) mm) = KA (nI s) mm) ∨ (∃ s l, stn σ t G s ∧ k = sm u s ∧ e = 1 ∧ s ≤ l ∧ (∀ m, s ≤ m → m ≤ l → lsn σ t m) ∧ ¬ lsn σ t (l + 1) ∧ l < 10000 ∧ (if nI b = 0 then (if nI (sm u n) = nI k then (if nI e = 0 then KA (nI n) mm else L_M_lost_90 KA KB K0 f (some (ad 100 0)) (nI t) (nI k) (nI e) (nI G) (nI (sm u n + 1)) 1 (nI (n + 1)) mm) else L_M_lost_90 KA KB K0 f (some (ad 100 0)) (nI t) (nI k) (nI e) (nI G) (nI (sm u n + 1)) 1 (nI (n + 1)) mm) else L_M_lost_90 KA KB K0 f (some (ad 100 0)) (nI t) (nI k) (nI e) (nI G) (nI (sm u n)) 1 (nI (n + 1)) mm) = KB (nI (l + 1)) mm) ∨ ((∀ s, stn σ t G s → k ≠ sm u s) ∧ (if nI b = 0 then (if nI (sm u n) = nI k then (if nI e = 0 then KA (nI n) mm else L_M_lost_90 KA KB K0 f (some (ad 100 0)) (nI t) (nI k) (nI e) (nI G) (nI (sm u n + 1)) 1 (nI (n + 1)) mm) else L_M_lost_90 KA KB K0 f (some (ad 100 0)) (nI t) (nI k) (nI e) (nI G) (nI (sm u n + 1)) 1 (nI (n + 1)) mm) else L_M_lost_90 KA KB K0 f (some (ad 100 0)) (nI t) (nI k) (nI e) (nI G) (nI (sm u n)) 1 (nI (n + 1)) mm) = K0 mm) := by
      intro hl
      have hnG : n < G := by
        rcases Nat.lt_or_ge n G with v | v
        · exact v
        · exact absurd (by rw [show n = G by omega]; exact hGt) hl.2
      have ext : (e = 1 → ∀ s, s < n + 1 → stn σ t G s → k = sm u s → ∀ m, s ≤ m → m < n + 1 → lsn σ t m) := by
        intro w s hs hst hks m m1 m2
        by_cases q : m = n
        · rw [q]; exact hl
        · by_cases q2 : s = n
          · omega
          · exact H1 w s (by omega) hst hks m m1 (by omega)
      have i := ih (n + 1) f 1 (by omega) (by omega) (by omega) (by omega) ⟨fun _ => ⟨by omega, by rw [Nat.add_sub_cancel]; exact hl⟩, fun _ => rfl⟩
      rw [smn, show nI 1 = (1 : Int32) from rfl] at i
      rcases Nat.eq_zero_or_pos b with z | z
      · have hst : stn σ t G n := ⟨hn1, hnG, hl, by
          rcases Nat.lt_or_ge 1 n with v | v
          · exact Or.inr (fun w => by have := hbb.mpr ⟨v, w⟩; omega)
          · exact Or.inl (by omega)⟩
        have un := (hu n).2.mpr hst
        rw [un] at i
        rw [if_pos (show nI b = 0 by rw [z]; rfl)]
        by_cases y : sm u n = k
        · rw [if_pos (by rw [y])]
          rcases Nat.eq_zero_or_pos e with v | v
          · rw [if_pos (show nI e = 0 by rw [v]; rfl)]
            exact Or.inl ⟨n, hst, y.symm, v, rfl⟩
          · rw [if_neg (show ¬ nI e = 0 by rw [show e = 1 by omega]; decide)]
            exact i (fun w => by omega) ext
        · rw [if_neg (fun w => y ((nI_eq (by omega) (by omega)).mp w))]
          refine i (fun w s hs hss => ?_) ext
          by_cases q : s = n
          · subst q; exact fun v => y v.symm
          · exact H0 w s (by omega) hss
      · obtain ⟨n1, n2⟩ := hbb.mp (by omega)
        have nst : ¬ stn σ t G n := fun w => by
          rcases w.2.2.2 with v | v
          · omega
          · exact v n2
        have un : u n = 0 := by
          have := (hu n).1
          refine Classical.byContradiction (fun q => nst ((hu n).2.mp (by omega)))
        rw [un, Nat.add_zero] at i
        rw [if_neg (show ¬ nI b = 0 by rw [show b = 1 by omega]; decide)]
        refine i (fun w s hs hss => ?_) ext
        by_cases q : s = n
        · subst q; exact absurd hss nst
        · exact H0 w s (by omega) hss
    rcases M_inBlock h (t := t) (n := n) (by omega) (by omega) (by omega) (fun q hq => by have := h9.2.2.2.1 t q hq; omega) with ⟨a, b'⟩ | ⟨a, b'⟩
    · rw [b']
      simp only [gb2_some, if_neg (show ¬ (1 : Int32) = 0 by decide), if_true]
      exact caseNo (fun w => w.1 a)
    · rw [b']
      simp only [gb2_some, if_true, gb1_some, h.xM]
      rcases M_tld h hI ⟨rfl, rfl, rfl⟩ (t := t) (n := n) (by omega) (by omega) with ⟨w, k', k1, k2, k3, k4⟩ | ⟨w, k4⟩
      · rw [k4]
        simp only [gb2_some, if_true]
        rw [if_pos (nI_pos' (by omega))]
        exact caseNo (fun v => v.2 w)
      · rw [k4]
        simp only [gb2_some, if_neg (show ¬ (1 : Int32) = 0 by decide)]
        rw [if_neg (by decide)]
        exact caseYes ⟨a, w⟩
end LP
