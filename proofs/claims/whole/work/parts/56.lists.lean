/-! lists of the state -/
section RL
variable {n0 : Nat} {σ σ' : Nat → Nat → Nat} {τ : Nat → Nat → Int64} {ad ad' : Nat → Nat → Nat} {mm mm' : gM}
theorem Rep.list (h : Rep n0 σ τ ad mm) {l : Nat} (hl : l < 3 + σ 42 1) : ∃ (e c : Nat) (g : Nat → Option Nat), gL mm (ad 1 l) e (σ 40 l) c g ∧ (∀ j, j < σ 40 l → g j = some (ad (rek l) (σ 41 (l * 1000 + j)))) ∧ e = (if σ 40 l = 0 then mm.2.2.2.1 0 else ad 2 l) := by
  obtain ⟨c1, hc1, m, rfl⟩ := h.ob (by omega) (u1 hl)
  have hr1 := h.2.2.1 1 l (u1 hl)
  have hz := h.2.2.2.2.2.1
  by_cases h0 : σ 40 l = 0
  · rw [if_pos h0] at hc1
    refine ⟨mm.2.2.2.1 0, 0, fun _ => none, ⟨⟨m, hc1⟩, by omega, by omega, by omega, hr1.2, by omega, Or.inl ⟨h0, rfl, rfl, h.2.2.2.2.1 _ hz⟩⟩, fun j hj => absurd hj (by omega), by rw [if_pos h0]⟩
  · rw [if_neg h0] at hc1
    have hu2 : ru σ 2 l := u2 hl (by omega)
    obtain ⟨c2, hc2, n, g, rfl, a1, a2, a3, a4⟩ := h.ob (by omega) hu2
    have hr2 := h.2.2.1 2 l hu2
    exact ⟨ad 2 l, n, g, ⟨⟨m, hc1⟩, a1, a3, h.ne (u1 hl) hu2 (Or.inl (by omega)), hr1.2, hr2.2, Or.inr ⟨a2, hc2⟩⟩, a4, by rw [if_neg h0]⟩
theorem Rep.size (h : Rep n0 σ τ ad mm) {l : Nat} (hl : l < 3 + σ 42 1) : F_AL_size (ad 1 l) mm = some (nI (σ 40 l), mm) := by
  obtain ⟨e, c, g, hL, -⟩ := h.list hl
  exact AL_size_eq hL
theorem Rep.isEmpty (h : Rep n0 σ τ ad mm) {l : Nat} (hl : l < 3 + σ 42 1) : F_AL_isEmpty (ad 1 l) mm = some (if σ 40 l = 0 then 1 else 0, mm) := by
  obtain ⟨e, c, g, hL, -⟩ := h.list hl
  exact AL_isEmpty_eq hL
theorem Rep.get (h : Rep n0 σ τ ad mm) {l j : Nat} (hl : l < 3 + σ 42 1) (hj : j < σ 40 l) : F_AL_get (ad 1 l) (nI j) mm = some (some (ad (rek l) (σ 41 (l * 1000 + j))), mm) := by
  obtain ⟨e, c, g, hL, hg, -⟩ := h.list hl
  rw [AL_get_eq hL hj, hg j hj]
theorem Rep.oList (h : Rep n0 σ τ ad mm) {l : Nat} (hl : l < 3 + σ 42 1) : ∃ fs : List Value, mm.1 (ad 1 l) = some (.inr (9, fs)) := by
  obtain ⟨c1, hc1, m, rfl⟩ := h.ob (by omega) (u1 hl)
  exact ⟨_, hc1⟩
theorem rek_ne (l : Nat) : rek l ≠ 2 := by
  unfold rek
  split <;> omega
/-- the object of a role with another list -/
theorem rgo_list {z l n' : Nat} {w : Nat → Nat} (hs : ∀ f j, f ≠ 40 → f ≠ 41 → σ' f j = σ f j) (h40 : ∀ j, j ≠ l → σ' 40 j = σ 40 j) (h41 : ∀ j, ¬ (l * 1000 ≤ j ∧ j < l * 1000 + 1000) → σ' 41 j = σ 41 j) (had : ∀ k i, (k ≠ 2 ∨ i ≠ l) → ad' k i = ad k i) {k i : Nat} (hne : ¬ (k = 1 ∧ i = l)) (hne2 : ¬ (k = 2 ∧ i = l)) (hlen : k = 2 → σ 40 i ≤ 1000) {c : gE} (h : rgo σ τ z ad k i c) : rgo σ' τ z ad' k i c := by
  unfold rgo at h ⊢
  split at h
  · rw [hs 1 _ (by omega) (by omega), had 1 0 (by omega), had 1 1 (by omega), had 1 2 (by omega), had 3 0 (by omega), had 1026 0 (by omega), had 17 0 (by omega)]; exact h
  · rw [h40 _ (by omega), had 2 i (by omega)]; exact h
  · obtain ⟨n, g, h1, h2, h3, h4, h5⟩ := h
    have hi : i ≠ l := by omega
    refine ⟨n, g, h1, by rw [h40 _ hi]; exact h2, h3, h4, fun j hj => ?_⟩
    rw [h40 _ hi] at hj
    have hl2 := hlen rfl
    rw [h41 _ (by omega), had _ _ (Or.inl (rek_ne i))]
    exact h5 j hj
  · obtain ⟨g, h1, h2⟩ := h
    refine ⟨g, h1, fun j hj => ?_⟩
    rw [hs 16 _ (by omega) (by omega), h2 j hj]
    unfold rop
    rw [had 10 _ (by omega)]
  · have e : rop (σ 9 i) (ad' 10) = rop (σ 9 i) (ad 10) := by
      unfold rop
      rw [had 10 _ (by omega)]
    rw [hs 4 _ (by omega) (by omega), hs 5 _ (by omega) (by omega), hs 6 _ (by omega) (by omega), hs 7 _ (by omega) (by omega), hs 8 _ (by omega) (by omega), hs 9 _ (by omega) (by omega), e]; exact h
  · rw [hs 10 _ (by omega) (by omega), had 1 _ (by omega), had 12 _ (by omega), had 16 _ (by omega)]; exact h
  · rw [hs 11 _ (by omega) (by omega), had 1020 _ (by omega), had 1021 _ (by omega), had 1022 _ (by omega)]; exact h
  · rw [hs 12 _ (by omega) (by omega), had 2020 _ (by omega), had 2021 _ (by omega)]; exact h
  · rw [had 1025 _ (by omega), had 2022 _ (by omega)]; exact h
  · rw [hs 13 _ (by omega) (by omega), had 21 _ (by omega), had 21 _ (by omega)]; exact h
  · rw [had 1023 _ (by omega)]; exact h
  · rw [hs 14 _ (by omega) (by omega), hs 15 _ (by omega) (by omega), had 1024 _ (by omega)]; exact h
  · rw [hs 500 _ (by omega) (by omega), hs 501 _ (by omega) (by omega), hs 502 _ (by omega) (by omega), hs 503 _ (by omega) (by omega)]
    rw [had 1510 _ (by omega), had 1511 _ (by omega), had 1512 _ (by omega), had 1513 _ (by omega), had 1514 _ (by omega), had 2510 _ (by omega), had 1515 _ (by omega), had 1516 _ (by omega), had 1517 _ (by omega), had 1518 _ (by omega), had 1519 _ (by omega), had 1520 _ (by omega), had 1521 _ (by omega), had 1522 _ (by omega), had 1523 _ (by omega), had 1524 _ (by omega), had 1525 _ (by omega), had 1526 _ (by omega), had 1527 _ (by omega), had 1528 _ (by omega), had 2511 _ (by omega), had 2512 _ (by omega), had 1529 _ (by omega)]
    exact h
theorem Rep.relist (h : Rep n0 σ τ ad mm) {l e' c' n' : Nat} {g' : Nat → Option Nat} {m' : Int32} {w : Nat → Nat} (hl : l < 3 + σ 42 1)
    (h1 : mm'.1 (ad 1 l) = some (.inr (9, [.ref e', .int (nI n'), .int m']))) (h2 : mm'.1 e' = some (.inl (4, c', .inr (.inr (.inr (.inr g')))))) (hn' : 0 < n') (hc1 : n' ≤ c') (hc2 : 10 ≤ c') (hc3 : c' ≤ 1000) (hg' : ∀ j, j < n' → g' j = some (ad (rek l) (w j)))
    (he : (0 < σ 40 l ∧ e' = ad 2 l ∧ mm'.2.1 = mm.2.1) ∨ (e' = mm.2.1 ∧ mm'.2.1 = mm.2.1 + 1)) (hsame : ∀ q, q ≠ ad 1 l → q ≠ e' → mm'.1 q = mm.1 q) (hst : mm'.2.2.2 = mm.2.2.2)
    (hs : ∀ f j, f ≠ 40 → f ≠ 41 → σ' f j = σ f j) (h40 : ∀ j, j ≠ l → σ' 40 j = σ 40 j) (h40l : σ' 40 l = n') (h41 : ∀ j, ¬ (l * 1000 ≤ j ∧ j < l * 1000 + 1000) → σ' 41 j = σ 41 j) (h41l : ∀ j, j < n' → σ' 41 (l * 1000 + j) = w j) (had : ∀ k i, (k ≠ 2 ∨ i ≠ l) → ad' k i = ad k i) (hadl : ad' 2 l = e') (hlen : ∀ i, ru σ 2 i → σ 40 i ≤ 1000) : Rep n0 σ' τ ad' mm' := by
  have hru : ∀ k i, ru σ' k i → (k = 2 ∧ i = l) ∨ ru σ k i := by
    intro k i hu
    by_cases hk : k = 2 ∧ i = l
    · exact Or.inl hk
    · right
      have e : rcn σ' k = rcn σ k := by
        unfold rcn
        simp only [hs 42 _ (by omega) (by omega)]
      obtain ⟨a, b⟩ := hu
      refine ⟨by rw [← e]; exact a, fun z => ?_⟩
      have hi : i ≠ l := fun w => hk ⟨z, w⟩
      rw [← h40 i hi]
      exact b z
  have hu1 : ru σ 1 l := u1 hl
  have hne : ∀ k i, ru σ k i → ¬ (k = 2 ∧ i = l) → ad k i ≠ e' := by
    intro k i hu hk
    rcases he with ⟨p0, p1, -⟩ | ⟨p1, -⟩
    · rw [p1]
      exact h.ne hu (u2 hl p0) (by
        by_cases z : k = 2
        · exact Or.inr (fun w => hk ⟨z, w⟩)
        · exact Or.inl z)
    · have := (h.2.2.1 k i hu).2
      omega
  have hnl : n0 ≤ e' ∧ e' < mm'.2.1 := by
    rcases he with ⟨p0, p1, p2⟩ | ⟨p1, p2⟩
    · have := h.2.2.1 2 l (u2 hl p0)
      rw [p1, p2]
      exact this
    · have := h.2.2.1 1 l hu1
      omega
  have hmono : mm.2.1 ≤ mm'.2.1 := by
    rcases he with ⟨-, -, p2⟩ | ⟨-, p2⟩ <;> omega
  refine ⟨fun k i hu => ?_, fun k i k' i' ha hb => ?_, fun k i ha => ?_, fun q hq => ?_, fun q hq => ?_, ?_⟩
  · rw [hst]
    by_cases hk : k = 2 ∧ i = l
    · obtain ⟨rfl, rfl⟩ := hk
      refine ⟨_, by rw [hadl]; exact h2, ?_⟩
      unfold rgd
      rw [if_pos (by omega)]
      refine ⟨c', g', rfl, by rw [h40l]; exact hc1, hc2, hc3, fun j hj => ?_⟩
      rw [h40l] at hj
      rw [hg' j hj, h41l j hj, had _ _ (Or.inl (rek_ne i))]
    · have hu0 : ru σ k i := (hru k i hu).resolve_left hk
      rw [had k i (by omega)]
      by_cases hk1 : k = 1 ∧ i = l
      · obtain ⟨rfl, rfl⟩ := hk1
        refine ⟨_, h1, ?_⟩
        unfold rgd
        rw [if_pos (by omega)]
        refine ⟨m', ?_⟩
        rw [h40l, if_neg (by omega), hadl]
      · obtain ⟨c, hc, hg⟩ := h.1 k i hu0
        refine ⟨c, ?_, ?_⟩
        · rw [hsame _ (h.ne hu0 hu1 (by omega)) (hne k i hu0 hk)]
          exact hc
        · unfold rgd at hg ⊢
          by_cases a1 : k < 1000
          · rw [if_pos a1] at hg ⊢
            exact rgo_list (l := l) (n' := n') (w := w) hs h40 h41 had hk1 hk (fun z => hlen i (by subst z; exact hu0)) hg
          · rw [if_neg a1] at hg ⊢
            by_cases a2 : k < 2000
            · rw [if_pos a2] at hg ⊢
              have hr := ru_ar (by omega) a2 hu0
              unfold rar at hr
              obtain ⟨q, e, hq⟩ := hg
              exact ⟨q, e, fun j' hj' => by rw [hs _ _ (by omega) (by omega)]; exact hq j' hj'⟩
            · rw [if_neg a2] at hg ⊢
              exact hg
  · intro e
    rcases hru k i ha with ⟨rfl, rfl⟩ | ha0
    · rcases hru k' i' hb with ⟨rfl, rfl⟩ | hb0
      · exact ⟨rfl, rfl⟩
      · by_cases hk' : k' = 2 ∧ i' = i
        · exact ⟨hk'.1.symm, hk'.2.symm⟩
        · rw [hadl, had k' i' (by omega)] at e
          exact absurd e.symm (hne k' i' hb0 hk')
    · by_cases hk : k = 2 ∧ i = l
      · rcases hru k' i' hb with ⟨rfl, rfl⟩ | hb0
        · exact hk
        · by_cases hk' : k' = 2 ∧ i' = l
          · omega
          · obtain ⟨rfl, rfl⟩ := hk
            rw [hadl, had k' i' (by omega)] at e
            exact absurd e.symm (hne k' i' hb0 hk')
      · rw [had k i (by omega)] at e
        rcases hru k' i' hb with ⟨rfl, rfl⟩ | hb0
        · rw [hadl] at e
          exact absurd e (hne k i ha0 hk)
        · by_cases hk' : k' = 2 ∧ i' = l
          · obtain ⟨rfl, rfl⟩ := hk'
            rw [hadl] at e
            exact absurd e (hne k i ha0 hk)
          · rw [had k' i' (by omega)] at e
            exact h.2.1 k i k' i' ha0 hb0 e
  · rcases hru k i ha with ⟨rfl, rfl⟩ | ha0
    · rw [hadl]; exact hnl
    · by_cases hk : k = 2 ∧ i = l
      · obtain ⟨rfl, rfl⟩ := hk
        rw [hadl]; exact hnl
      · rw [had k i (by omega)]
        have := h.2.2.1 k i ha0
        omega
  · have ha := h.2.2.1 1 l hu1
    rw [hsame q (by omega) (by omega)]
    exact h.2.2.2.1 q (by omega)
  · have ha := h.2.2.1 1 l hu1
    rw [hsame q (by omega) (by omega)]
    exact h.2.2.2.2.1 q hq
  · rw [hst]
    exact h.2.2.2.2.2
end RL
