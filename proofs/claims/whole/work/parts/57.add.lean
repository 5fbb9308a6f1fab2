/-! ArrayList.add, both -/
theorem gok_keep {mm mm' : gM} {v : Option Nat} (h : gok gObs v mm = true) (hk : ∀ y ci fs, mm.1 y = some (.inr (ci, fs)) → ci ∈ gObs → mm'.1 y = some (.inr (ci, fs))) : gok gObs v mm' = true := by
  cases v with
  | none => rfl
  | some y =>
    obtain ⟨ci, fs, hy, hci⟩ := gok_spec h
    exact gok_eq (hk y ci fs hy hci) (by simpa using hci)
theorem gObs9 : ¬ (9 : Nat) ∈ gObs := by decide
/-- the array with room for one more -/
theorem AL_prep {mm : gM} {b e n c : Nat} {g : Nat → Option Nat} (h : gL mm b e n c g) (hc5 : n ≤ 500) (hok : ∀ j, j < n → gok gObs (g j) mm = true) (hfr : ∀ q, mm.2.1 ≤ q → mm.1 q = none) :
    ∃ (mm1 : gM) (e1 c1 : Nat) (g1 : Nat → Option Nat) (m1 : Int32), (n = c → F_AL_grow b mm = some (some e1, mm1)) ∧ (n ≠ c → mm1 = mm ∧ e1 = e) ∧ mm1.1 b = some (.inr (9, [.ref e1, .int (nI n), .int m1])) ∧ mm1.1 e1 = some (.inl (4, c1, .inr (.inr (.inr (.inr g1))))) ∧ n < c1 ∧ 10 ≤ c1 ∧ c1 ≤ 1000 ∧ (∀ j, j < n → g1 j = g j) ∧
      (∀ q, q ≠ b → q ≠ e1 → mm1.1 q = mm.1 q) ∧ ((n ≠ c ∧ e1 = e ∧ mm1.2 = mm.2) ∨ (e1 = mm.2.1 ∧ mm1.2 = (mm.2.1 + 1, mm.2.2.1 + gcap c, mm.2.2.2))) ∧ b ≠ e1 := by
  by_cases hnc : n = c
  · obtain ⟨mm', g', h1, ⟨m, h2, -⟩, h3, h4, h5, h6⟩ := AL_grow_eq h hnc (by omega) hok hfr
    refine ⟨mm', mm.2.1, gcap c, g', m, fun _ => h1, fun z => absurd hnc z, h2, h3, ?_, ?_, ?_, h4, fun q a1 a2 => h5 q a1 a2, Or.inr ⟨rfl, h6⟩, ?_⟩
    · obtain ⟨-, -, -, -, -, -, h0 | ⟨h0, -⟩⟩ := h
      · unfold gcap; rw [if_pos h0.2.1]; omega
      · unfold gcap; rw [if_neg (by omega)]; omega
    · obtain ⟨-, -, -, -, -, -, h0 | ⟨h0, -⟩⟩ := h
      · unfold gcap; rw [if_pos h0.2.1]; omega
      · unfold gcap; rw [if_neg (by omega)]; omega
    · unfold gcap; split <;> omega
    · have := h.2.2.2.2.1
      omega
  · obtain ⟨⟨m, hb⟩, hn, hc, hbe, hbl, hel, h0 | ⟨h0, he⟩⟩ := h
    · omega
    · exact ⟨mm, e, c, g, m, fun z => absurd z hnc, fun _ => ⟨rfl, rfl⟩, hb, he, by omega, h0, hc, fun _ _ => rfl, fun _ _ _ => rfl, Or.inl ⟨hnc, rfl, rfl⟩, hbe⟩
theorem gL_mod {mm : gM} {b e n c : Nat} {g : Nat → Option Nat} {m m' : Int32} (h : gL mm b e n c g) : gL (gU mm b (.inr (9, [.ref e, .int (nI n), .int m']))) b e n c g := by
  obtain ⟨-, hn, hc, hbe, hbl, hel, h0⟩ := h
  refine ⟨⟨m', gU_s _ _ _⟩, hn, hc, hbe, hbl, hel, ?_⟩
  rcases h0 with ⟨a1, a2, a3, a4⟩ | ⟨a1, a2⟩
  · exact Or.inl ⟨a1, a2, a3, by rw [gU_n (Ne.symm hbe)]; exact a4⟩
  · exact Or.inr ⟨a1, by rw [gU_n (Ne.symm hbe)]; exact a2⟩
theorem gL_len {mm : gM} {b e n c : Nat} {g : Nat → Option Nat} (h : gL mm b e n c g) : glen (some e) mm = some (nI c) := by
  obtain ⟨-, hn, hc, hbe, hbl, hel, ⟨rfl, rfl, rfl, h0⟩ | ⟨a1, a2⟩⟩ := h
  · exact glen_st h0
  · exact glen_eq a2
theorem gObs_ne {mm : gM} {b y ci : Nat} {fs fs' : List Value} (hb : mm.1 b = some (.inr (9, fs))) (hy : mm.1 y = some (.inr (ci, fs'))) (hci : ci ∈ gObs) : y ≠ b := by
  intro e
  subst e
  rw [hb] at hy
  have h1 : ((9 : Nat), fs) = (ci, fs') := Sum.inr.inj (Option.some.inj hy)
  cases h1
  exact gObs9 hci
theorem AL_add_eq {mm : gM} {b e n c v : Nat} {g : Nat → Option Nat} (h : gL mm b e n c g) (hc5 : n ≤ 500) (hok : ∀ j, j < n → gok gObs (g j) mm = true) (hv : gok gObs (some v) mm = true) (hfr : ∀ q, mm.2.1 ≤ q → mm.1 q = none) :
    ∃ (mm' : gM) (e' c' : Nat) (g' : Nat → Option Nat) (m' : Int32), F_AL_add b (some v) mm = some (1, mm') ∧ mm'.1 b = some (.inr (9, [.ref e', .int (nI (n + 1)), .int m'])) ∧ mm'.1 e' = some (.inl (4, c', .inr (.inr (.inr (.inr g'))))) ∧ n + 1 ≤ c' ∧ 10 ≤ c' ∧ c' ≤ 1000 ∧ (∀ j, j < n → g' j = g j) ∧ g' n = some v ∧
      (∀ q, q ≠ b → q ≠ e' → mm'.1 q = mm.1 q) ∧ ((n ≠ c ∧ e' = e ∧ mm'.2 = mm.2) ∨ (e' = mm.2.1 ∧ mm'.2 = (mm.2.1 + 1, mm.2.2.1 + gcap c, mm.2.2.2))) := by
  obtain ⟨⟨m, hb⟩, hn, hc, hbe, hbl, hel, -⟩ := id h
  have h3 : gL (gU mm b (.inr (9, [.ref e, .int (nI n), .int (m + 1)]))) b e n c g := gL_mod (m := m) h
  generalize hmm3 : gU mm b (.inr (9, [.ref e, .int (nI n), .int (m + 1)])) = mm3 at h3
  have hk3 : ∀ y ci fs, mm.1 y = some (.inr (ci, fs)) → ci ∈ gObs → mm3.1 y = some (.inr (ci, fs)) := by
    intro y ci fs hy hci
    rw [← hmm3, gU_n (gObs_ne hb hy hci)]
    exact hy
  have hfr3 : ∀ q, mm3.2.1 ≤ q → mm3.1 q = none := by
    intro q hq
    rw [← hmm3] at hq ⊢
    have hq' : mm.2.1 ≤ q := hq
    rw [gU_n (by omega)]
    exact hfr q hq'
  have e3 : mm3.2 = mm.2 := by rw [← hmm3]; rfl
  obtain ⟨mm1, e1, c1, g1, m1, p1, p2, p3, p4, p5, p6, p7, p8, p9, p10, p11⟩ := AL_prep h3 hc5 (fun j hj => gok_keep (hok j hj) hk3) hfr3
  obtain ⟨⟨m3, hb3⟩, -⟩ := id h3
  have hl3 := gL_len h3
  have hv3 := gok_keep hv hk3
  have hv1 : gok gObs (some v) mm1 = true := by
    refine gok_keep hv3 (fun y ci fs hy hci => ?_)
    have hyb : y ≠ b := gObs_ne hb3 hy hci
    have hye : y ≠ e1 := by
      intro z
      rcases p10 with ⟨q1, q2, q3⟩ | ⟨q1, q2⟩
      · obtain ⟨rfl, -⟩ := p2 q1
        rw [z, p4] at hy
        cases hy
      · rw [z, q1, hfr3 _ (Nat.le_refl _)] at hy
        cases hy
    rw [p9 y hyb hye]
    exact hy
  have hb1 : (gU mm1 e1 (.inl (4, c1, .inr (.inr (.inr (.inr (va_up g1 n (some v)))))))).1 b = some (.inr (9, [.ref e1, .int (nI n), .int m1])) := by rw [gU_n p11]; exact p3
  have hJ : (gb1 (gsR 4 gObs (some e1) (nI n) (some v) mm1) fun mm3 => gb1 (gpV 9 1 (some b) (.int (nI n + (1 : Int32))) mm3) fun mm5 => some ((), mm5)) = some ((), gU (gU mm1 e1 (.inl (4, c1, .inr (.inr (.inr (.inr (va_up g1 n (some v)))))))) b (.inr (9, [.ref e1, .int (nI n + 1), .int m1]))) := by
    rw [gsR_eq p4 p5 (by omega) hv1, gb1_some, gpV_eq hb1 (Nat.le_of_ble_eq_true rfl), gb1_some]
    rfl
  refine ⟨gU (gU mm1 e1 (.inl (4, c1, .inr (.inr (.inr (.inr (va_up g1 n (some v)))))))) b (.inr (9, [.ref e1, .int (nI n + 1), .int m1])), e1, c1, va_up g1 n (some v), m1, ?_, ?_, ?_, p5, p6, p7, ?_, va_up_self _ _ _, ?_, ?_⟩
  · unfold F_AL_add
    rw [gfI_eq hb (k := 2) rfl, gb1_some, gpV_eq hb (Nat.le_of_ble_eq_true rfl), gb1_some]
    rw [show ([Value.ref e, .int (nI n), .int m].set 2 (.int (m + 1)) : List Value) = [.ref e, .int (nI n), .int (m + 1)] from rfl, hmm3]
    rw [gfR_eq hb3 (k := 0) rfl, gb1_some, gfI_eq hb3 (k := 1) rfl, gb1_some, grc_eq hb3, gb1_some]
    unfold F_AL_add2
    rw [hl3, gb1_some]
    dsimp only [gLet]
    by_cases hnc : n = c
    · rw [if_pos (by rw [hnc]), grc_eq hb3, gb1_some, p1 hnc, gb2_some, hJ, gb2_some]
    · obtain ⟨q1, q2⟩ := p2 hnc
      subst q1
      rw [if_neg (fun z => hnc ((nI_eq (by omega) (by omega)).mp z)), ← q2, hJ, gb2_some]
  · rw [gU_s, nI_1]
  · rw [gU_n (Ne.symm p11), gU_s]
  · intro j hj
    rw [va_up_ne _ _ (by omega)]
    exact p8 j hj
  · intro q hq1 hq2
    rw [gU_n hq1, gU_n hq2, p9 q hq1 hq2, ← hmm3, gU_n hq1]
  · rw [e3] at p10
    exact p10
theorem AL_ins_eq {mm : gM} {b e n c v p : Nat} {g : Nat → Option Nat} (h : gL mm b e n c g) (hp : p ≤ n) (hc5 : n ≤ 500) (hok : ∀ j, j < n → gok gObs (g j) mm = true) (hv : gok gObs (some v) mm = true) (hfr : ∀ q, mm.2.1 ≤ q → mm.1 q = none) :
    ∃ (mm' : gM) (e' c' : Nat) (g' : Nat → Option Nat) (m' : Int32), F_AL_add3 b (nI p) (some v) mm = some ((), mm') ∧ mm'.1 b = some (.inr (9, [.ref e', .int (nI (n + 1)), .int m'])) ∧ mm'.1 e' = some (.inl (4, c', .inr (.inr (.inr (.inr g'))))) ∧ n + 1 ≤ c' ∧ 10 ≤ c' ∧ c' ≤ 1000 ∧ (∀ j, j < p → g' j = g j) ∧ g' p = some v ∧ (∀ j, p ≤ j → j < n → g' (j + 1) = g j) ∧
      (∀ q, q ≠ b → q ≠ e' → mm'.1 q = mm.1 q) ∧ ((n ≠ c ∧ e' = e ∧ mm'.2 = mm.2) ∨ (e' = mm.2.1 ∧ mm'.2 = (mm.2.1 + 1, mm.2.2.1 + gcap c, mm.2.2.2))) := by
  obtain ⟨⟨m, hb⟩, hn, hc, hbe, hbl, hel, -⟩ := id h
  have h3 : gL (gU mm b (.inr (9, [.ref e, .int (nI n), .int (m + 1)]))) b e n c g := gL_mod (m := m) h
  generalize hmm3 : gU mm b (.inr (9, [.ref e, .int (nI n), .int (m + 1)])) = mm3 at h3
  have hk3 : ∀ y ci fs, mm.1 y = some (.inr (ci, fs)) → ci ∈ gObs → mm3.1 y = some (.inr (ci, fs)) := by
    intro y ci fs hy hci
    rw [← hmm3, gU_n (gObs_ne hb hy hci)]
    exact hy
  have hfr3 : ∀ q, mm3.2.1 ≤ q → mm3.1 q = none := by
    intro q hq
    rw [← hmm3] at hq ⊢
    have hq' : mm.2.1 ≤ q := hq
    rw [gU_n (by omega)]
    exact hfr q hq'
  have e3 : mm3.2 = mm.2 := by rw [← hmm3]; rfl
  obtain ⟨mm1, e1, c1, g1, m1, p1, p2, p3, p4, p5, p6, p7, p8, p9, p10, p11⟩ := AL_prep h3 hc5 (fun j hj => gok_keep (hok j hj) hk3) hfr3
  obtain ⟨⟨m3, hb3⟩, -⟩ := id h3
  have hl3 := gL_len h3
  have hk1 : ∀ y ci fs, mm3.1 y = some (.inr (ci, fs)) → ci ∈ gObs → mm1.1 y = some (.inr (ci, fs)) := by
    intro y ci fs hy hci
    have hyb : y ≠ b := gObs_ne hb3 hy hci
    have hye : y ≠ e1 := by
      intro z
      rcases p10 with ⟨q1, q2, q3⟩ | ⟨q1, q2⟩
      · obtain ⟨rfl, -⟩ := p2 q1
        rw [z, p4] at hy
        cases hy
      · rw [z, q1, hfr3 _ (Nat.le_refl _)] at hy
        cases hy
    rw [p9 y hyb hye]
    exact hy
  have hk2 : ∀ x : gE, ∀ y ci fs, mm1.1 y = some (.inr (ci, fs)) → ci ∈ gObs → (gU mm1 e1 x).1 y = some (.inr (ci, fs)) := by
    intro x y ci fs hy hci
    have hye : y ≠ e1 := by
      intro z
      rw [z, p4] at hy
      cases hy
    rw [gU_n hye]
    exact hy
  have hcopy := gcR_eq (cs := gObs) (sp := p) (dp := p + 1) (n := n - p) p4 p4 (by omega) (by omega) (by omega) (by omega) (by omega) (fun i hi => by
    rw [p8 _ (by omega)]
    exact gok_keep (gok_keep (hok _ (by omega)) hk3) hk1)
  generalize hgc : va_cpy g1 g1 p (p + 1) (n - p) = gc at hcopy
  have hA : (gU mm1 e1 (.inl (4, c1, .inr (.inr (.inr (.inr gc)))))).1 e1 = some (.inl (4, c1, .inr (.inr (.inr (.inr gc))))) := gU_s _ _ _
  have hstore := gsR_eq (cs := gObs) (j := p) hA (by omega) (by omega) (gok_keep (gok_keep (gok_keep hv hk3) hk1) (hk2 _))
  have hb1 : (gU (gU mm1 e1 (.inl (4, c1, .inr (.inr (.inr (.inr gc)))))) e1 (.inl (4, c1, .inr (.inr (.inr (.inr (va_up gc p (some v)))))))).1 b = some (.inr (9, [.ref e1, .int (nI n), .int m1])) := by rw [gU_n p11, gU_n p11]; exact p3
  have hJ : (gb1 (gcR 4 gObs (some e1) (nI p) (some e1) (nI p + (1 : Int32)) (nI n - nI p) mm1) fun mm16 => gb1 (gsR 4 gObs (some e1) (nI p) (some v) mm16) fun mm18 => gb1 (gpV 9 1 (some b) (.int (nI n + (1 : Int32))) mm18) fun mm20 => some ((), mm20)) = some ((), gU (gU (gU mm1 e1 (.inl (4, c1, .inr (.inr (.inr (.inr gc)))))) e1 (.inl (4, c1, .inr (.inr (.inr (.inr (va_up gc p (some v)))))))) b (.inr (9, [.ref e1, .int (nI n + 1), .int m1]))) := by
    rw [nI_1 p, pk_sub hp, hcopy, gb1_some, hstore, gb1_some, gpV_eq hb1 (Nat.le_of_ble_eq_true rfl), gb1_some]
    rfl
  refine ⟨gU (gU (gU mm1 e1 (.inl (4, c1, .inr (.inr (.inr (.inr gc)))))) e1 (.inl (4, c1, .inr (.inr (.inr (.inr (va_up gc p (some v)))))))) b (.inr (9, [.ref e1, .int (nI n + 1), .int m1])), e1, c1, va_up gc p (some v), m1, ?_, ?_, ?_, p5, p6, p7, ?_, va_up_self _ _ _, ?_, ?_, ?_⟩
  · unfold F_AL_add3
    rw [grc_eq hb, gb1_some]
    unfold F_AL_rangeCheckForAdd
    rw [gfI_eq hb (k := 1) rfl, gb1_some]
    dsimp only [gLet]
    rw [if_neg (nI_nlt (by omega) (by omega)), if_pos (nI_pos' (by omega)), gb2_some]
    rw [gfI_eq hb (k := 2) rfl, gb1_some, gpV_eq hb (Nat.le_of_ble_eq_true rfl), gb1_some]
    rw [show ([Value.ref e, .int (nI n), .int m].set 2 (.int (m + 1)) : List Value) = [.ref e, .int (nI n), .int (m + 1)] from rfl, hmm3]
    rw [gfI_eq hb3 (k := 1) rfl, gb1_some, gfR_eq hb3 (k := 0) rfl, gb1_some, hl3, gb1_some]
    by_cases hnc : n = c
    · rw [if_pos (by rw [hnc]), grc_eq hb3, gb1_some, p1 hnc, gb2_some, hJ]
    · obtain ⟨q1, q2⟩ := p2 hnc
      subst q1
      rw [if_neg (fun z => hnc ((nI_eq (by omega) (by omega)).mp z)), ← q2, hJ]
  · rw [gU_s, nI_1]
  · rw [gU_n (Ne.symm p11), gU_s]
  · intro j hj
    rw [va_up_ne _ _ (by omega), ← hgc, pk_cpy_out (by omega)]
    exact p8 j (by omega)
  · intro j hj1 hj2
    rw [va_up_ne _ _ (by omega), ← hgc, pk_cpy_in (by omega) (by omega), show p + (j + 1 - (p + 1)) = j by omega]
    exact p8 j hj2
  · intro q hq1 hq2
    rw [gU_n hq1, gU_n hq2, gU_n hq2, p9 q hq1 hq2, ← hmm3, gU_n hq1]
  · rw [e3] at p10
    exact p10
