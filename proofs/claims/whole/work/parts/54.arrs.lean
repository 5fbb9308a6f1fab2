/-! arrays of the state -/
theorem rgo_of {σ σ' : Nat → Nat → Nat} {τ τ' : Nat → Nat → Int64} {z : Nat} {ad : Nat → Nat → Nat} (hs : ∀ f j, (f < 20 ∨ (26 < f ∧ f < 510) ∨ 529 < f) → σ' f j = σ f j) (ht : ∀ f j, f < 20 → τ' f j = τ f j) {k i : Nat} {c : gE} (h : rgo σ τ z ad k i c) : rgo σ' τ' z ad k i c := by
  unfold rgo at h ⊢
  split at h
  · rw [hs 1 0 (by omega)]; exact h
  · rw [hs 40 _ (by omega)]; exact h
  · obtain ⟨n, g, h1, h2, h3, h4, h5⟩ := h
    refine ⟨n, g, h1, by rw [hs 40 _ (by omega)]; exact h2, h3, h4, fun j hj => ?_⟩
    rw [hs 40 _ (by omega)] at hj
    rw [hs 41 _ (by omega)]
    exact h5 j hj
  · obtain ⟨g, h1, h2⟩ := h
    exact ⟨g, h1, fun j hj => by rw [hs 16 _ (by omega)]; exact h2 j hj⟩
  · rw [hs 4 _ (by omega), hs 5 _ (by omega), hs 6 _ (by omega), hs 7 _ (by omega), hs 8 _ (by omega), hs 9 _ (by omega), ht 0 _ (by omega)]; exact h
  · rw [hs 10 _ (by omega)]; exact h
  · rw [hs 11 _ (by omega)]; exact h
  · rw [hs 12 _ (by omega)]; exact h
  · exact h
  · rw [hs 13 _ (by omega)]; exact h
  · rw [ht 1 _ (by omega)]; exact h
  · rw [hs 14 _ (by omega), hs 15 _ (by omega)]; exact h
  · rw [hs 500 _ (by omega), hs 501 _ (by omega), hs 502 _ (by omega), hs 503 _ (by omega)]; exact h
section RA
variable {n0 : Nat} {σ : Nat → Nat → Nat} {τ : Nat → Nat → Int64} {ad : Nat → Nat → Nat} {mm : gM}
theorem Rep.arI (h : Rep n0 σ τ ad mm) {k i : Nat} (h1 : 1000 ≤ k) (h2 : k < 2000) (hu : ru σ k i) : ∃ f : Nat → Int32, mm.1 (ad k i) = some (.inl (rtg k, rln k, .inl f)) ∧ ∀ j, j < rln k → f j = nI (σ (k - 1000) (i * rln k + j)) := by
  obtain ⟨c, hc, hg⟩ := h.1 k i hu
  unfold rgd at hg
  rw [if_neg (by omega), if_pos h2] at hg
  obtain ⟨f, rfl, hf⟩ := hg
  exact ⟨f, hc, hf⟩
theorem Rep.arL (h : Rep n0 σ τ ad mm) {k i : Nat} (h1 : 2000 ≤ k) (hu : ru σ k i) : ∃ f : Nat → Int64, mm.1 (ad k i) = some (.inl (1, rln k, .inr (.inl f))) ∧ ∀ j, j < rln k → f j = τ (k - 2000) (i * rln k + j) := by
  obtain ⟨c, hc, hg⟩ := h.1 k i hu
  unfold rgd at hg
  rw [if_neg (by omega), if_neg (by omega)] at hg
  obtain ⟨f, rfl, hf⟩ := hg
  exact ⟨f, hc, hf⟩
theorem Rep.rdI (h : Rep n0 σ τ ad mm) {k i f t n j : Nat} (hu : ru σ k i) (hf : k = 1000 + f) (hf2 : f < 1000) (ht : rtg k = t) (hn : rln k = n) (hj : j < n) : gaI t (some (ad k i)) (nI j) mm = some (nI (σ f (i * n + j))) := by
  subst hf ht hn
  obtain ⟨g, hg, hgj⟩ := h.arI (by omega) (by omega) hu
  rw [gaI_eq hg hj (by have := rln_le (1000 + f); omega) (rtg_lt _), hgj j hj, Nat.add_sub_cancel_left]
theorem Rep.rdL (h : Rep n0 σ τ ad mm) {k i f n j : Nat} (hu : ru σ k i) (hf : k = 2000 + f) (hn : rln k = n) (hj : j < n) : gaL 1 (some (ad k i)) (nI j) mm = some (τ f (i * n + j)) := by
  subst hf hn
  obtain ⟨g, hg, hgj⟩ := h.arL (by omega) hu
  rw [gaL_eq hg hj (by have := rln_le (2000 + f); omega) (by omega), hgj j hj, Nat.add_sub_cancel_left]
theorem r_seg {n i i' j j' : Nat} (hj : j < n) (hj' : j' < n) (h : i * n + j = i' * n + j') : i = i' ∧ j = j' := by
  have hn : 0 < n := by omega
  have e1 : (i * n + j) / n = i := by rw [Nat.mul_comm, Nat.mul_add_div hn, Nat.div_eq_of_lt hj, Nat.add_zero]
  have e2 : (i' * n + j') / n = i' := by rw [Nat.mul_comm, Nat.mul_add_div hn, Nat.div_eq_of_lt hj', Nat.add_zero]
  have e : i = i' := by rw [← e1, h, e2]
  subst e
  exact ⟨rfl, by omega⟩
theorem Rep.wrI (h : Rep n0 σ τ ad mm) {k i f t n j : Nat} (hu : ru σ k i) (hf : k = 1000 + f) (hf2 : f < 1000) (ht : rtg k = t) (hn : rln k = n) (hj : j < n) (v : Nat) : ∃ mm' : gM, gsI t (some (ad k i)) (nI j) (nI v) mm = some mm' ∧ mm'.2 = mm.2 ∧ Rep n0 (uS σ f (i * n + j) v) τ ad mm' := by
  subst hf ht hn
  have hr := ru_ar (by omega) (by omega) hu
  rw [Nat.add_sub_cancel_left] at hr
  unfold rar at hr
  obtain ⟨g, hg, hgj⟩ := h.arI (by omega) (by omega) hu
  rw [Nat.add_sub_cancel_left] at hgj
  refine ⟨_, gsI_eq hg hj (by have := rln_le (1000 + f); omega) (nI v), rfl, ?_⟩
  refine h.write hu (fun k' i' h' => ru_of (fun i => uS_f (by omega)) (fun i => uS_f (by omega)) h') ?_ ?_
  · unfold rgd
    rw [if_neg (by omega), if_pos (by omega)]
    refine ⟨_, rfl, fun j' hj' => ?_⟩
    rw [Nat.add_sub_cancel_left]
    by_cases e : j' = j
    · subst e
      rw [va_up_self, uS_s]
    · rw [va_up_ne _ _ e, uS_i (by omega)]
      exact hgj j' hj'
  · intro k' i' c hu' hne hg'
    unfold rgd at hg' ⊢
    by_cases a1 : k' < 1000
    · rw [if_pos a1] at hg' ⊢
      exact rgo_of (fun g j h => uS_f (by omega)) (fun _ _ _ => rfl) hg'
    · rw [if_neg a1] at hg' ⊢
      by_cases a2 : k' < 2000
      · rw [if_pos a2] at hg' ⊢
        obtain ⟨q, e, hq⟩ := hg'
        refine ⟨q, e, fun j' hj' => ?_⟩
        rw [hq j' hj']
        by_cases e2 : k' = 1000 + f
        · subst e2
          rw [uS_i (fun z => by
            obtain ⟨z1, -⟩ := r_seg hj' hj z
            rcases hne with w | w
            · exact w rfl
            · exact w z1)]
        · rw [uS_f (by omega)]
      · rw [if_neg a2] at hg' ⊢
        exact hg'
theorem Rep.wrL (h : Rep n0 σ τ ad mm) {k i f n j : Nat} (hu : ru σ k i) (hf : k = 2000 + f) (hn : rln k = n) (hj : j < n) (v : Int64) : ∃ mm' : gM, gsL 1 (some (ad k i)) (nI j) v mm = some mm' ∧ mm'.2 = mm.2 ∧ Rep n0 σ (uT τ f (i * n + j) v) ad mm' := by
  subst hf hn
  have hr := ru_al (by omega) hu
  rw [Nat.add_sub_cancel_left] at hr
  obtain ⟨g, hg, hgj⟩ := h.arL (by omega) hu
  rw [Nat.add_sub_cancel_left] at hgj
  refine ⟨_, gsL_eq hg hj (by have := rln_le (2000 + f); omega) v, rfl, ?_⟩
  refine h.write hu (fun k' i' h' => h') ?_ ?_
  · unfold rgd
    rw [if_neg (by omega), if_neg (by omega)]
    refine ⟨_, rfl, fun j' hj' => ?_⟩
    rw [Nat.add_sub_cancel_left]
    by_cases e : j' = j
    · subst e
      rw [va_up_self, uT_s]
    · rw [va_up_ne _ _ e, uT_i (by omega)]
      exact hgj j' hj'
  · intro k' i' c hu' hne hg'
    unfold rgd at hg' ⊢
    by_cases a1 : k' < 1000
    · rw [if_pos a1] at hg' ⊢
      exact rgo_of (fun _ _ _ => rfl) (fun g j h => uT_f (by omega)) hg'
    · rw [if_neg a1] at hg' ⊢
      by_cases a2 : k' < 2000
      · rw [if_pos a2] at hg' ⊢
        exact hg'
      · rw [if_neg a2] at hg' ⊢
        obtain ⟨q, e, hq⟩ := hg'
        refine ⟨q, e, fun j' hj' => ?_⟩
        rw [hq j' hj']
        by_cases e2 : k' = 2000 + f
        · subst e2
          rw [uT_i (fun z => by
            obtain ⟨z1, -⟩ := r_seg hj' hj z
            rcases hne with w | w
            · exact w rfl
            · exact w z1)]
        · rw [uT_f (by omega)]
end RA
