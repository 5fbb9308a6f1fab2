/-! which roles a role's cell names -/
def rfs (σ : Nat → Nat → Nat) (k i k' i' : Nat) : Prop := match k with
  | 0 => (k' = 1 ∧ i' < 3) ∨ (i' = 0 ∧ (k' = 3 ∨ k' = 1026 ∨ k' = 17))
  | 1 => k' = 2 ∧ i' = i
  | 2 => k' = rek i ∧ ∃ j, j < σ 40 i ∧ i' = σ 41 (i * 1000 + j)
  | 3 => k' = 10 ∧ ∃ j, j < 128 ∧ σ 16 j = i' + 1
  | 10 => k' = 10 ∧ σ 9 i = i' + 1
  | 11 => (k' = 1 ∧ i' = 3 + i) ∨ (i' = i ∧ (k' = 12 ∨ k' = 16))
  | 12 => i' = i ∧ (k' = 1020 ∨ k' = 1021 ∨ k' = 1022)
  | 16 => i' = i ∧ (k' = 2020 ∨ k' = 2021)
  | 17 => i' = 0 ∧ (k' = 1025 ∨ k' = 2022)
  | 20 => k' = 21 ∧ (i' = 2 * i ∨ i' = 2 * i + 1)
  | 21 => k' = 1023 ∧ i' = i
  | 30 => k' = 1024 ∧ i' = i
  | _ => i' = 0 ∧ (1510 ≤ k' ∧ k' ≤ 1529 ∨ 2510 ≤ k' ∧ k' ≤ 2512)
section AD
variable {n0 : Nat} {σ σ' : Nat → Nat → Nat} {τ τ' : Nat → Nat → Int64} {ad ad' : Nat → Nat → Nat} {mm mm' : gM}
theorem rop_ad {x : Nat} {f f' : Nat → Nat} (h : ∀ i, x = i + 1 → f' i = f i) : rop x f' = rop x f := by
  unfold rop
  by_cases z : x = 0
  · rw [if_pos z, if_pos z]
  · rw [if_neg z, if_neg z, h (x - 1) (by omega)]
theorem rgo_ad {z k i : Nat} {c : gE} (hk : k < 1000) (hs : ∀ f j, (f < 20 ∨ (26 < f ∧ f < 42) ∨ (42 < f ∧ f < 510)) → σ' f j = σ f j) (ht : ∀ f j, f < 20 → τ' f j = τ f j) (had : ∀ k' i', rfs σ k i k' i' → ad' k' i' = ad k' i') (h : rgo σ τ z ad k i c) : rgo σ' τ' z ad' k i c := by
  unfold rgo at h ⊢
  unfold rfs at had
  split at h
  · simp only at had
    rw [hs 1 0 (by omega), had 1 0 (by omega), had 1 1 (by omega), had 1 2 (by omega), had 3 0 (by omega), had 1026 0 (by omega), had 17 0 (by omega)]; exact h
  · simp only at had
    rw [hs 40 _ (by omega), had 2 i ⟨rfl, rfl⟩]; exact h
  · simp only at had
    obtain ⟨n, g, h1, h2, h3, h4, h5⟩ := h
    refine ⟨n, g, h1, by rw [hs 40 _ (by omega)]; exact h2, h3, h4, fun j hj => ?_⟩
    rw [hs 40 _ (by omega)] at hj
    rw [hs 41 _ (by omega), had _ _ ⟨rfl, j, hj, rfl⟩]
    exact h5 j hj
  · simp only at had
    obtain ⟨g, h1, h2⟩ := h
    refine ⟨g, h1, fun j hj => ?_⟩
    rw [hs 16 _ (by omega), rop_ad (f := ad 10) (fun i' hi' => had 10 i' ⟨rfl, j, hj, hi'⟩)]
    exact h2 j hj
  · simp only at had
    rw [hs 4 _ (by omega), hs 5 _ (by omega), hs 6 _ (by omega), hs 7 _ (by omega), hs 8 _ (by omega), hs 9 _ (by omega), ht 0 _ (by omega), rop_ad (f := ad 10) (fun i' hi' => had 10 i' ⟨rfl, hi'⟩)]; exact h
  · simp only at had
    rw [hs 10 _ (by omega), had 1 (3 + i) (by omega), had 12 i (by omega), had 16 i (by omega)]; exact h
  · simp only at had
    rw [hs 11 _ (by omega), had 1020 i (by omega), had 1021 i (by omega), had 1022 i (by omega)]; exact h
  · simp only at had
    rw [hs 12 _ (by omega), had 2020 i (by omega), had 2021 i (by omega)]; exact h
  · simp only at had
    rw [had 1025 0 (by omega), had 2022 0 (by omega)]; exact h
  · simp only at had
    rw [hs 13 _ (by omega), had 21 (2 * i) (by omega), had 21 (2 * i + 1) (by omega)]; exact h
  · simp only at had
    rw [ht 1 _ (by omega), had 1023 i ⟨rfl, rfl⟩]; exact h
  · simp only at had
    rw [hs 14 _ (by omega), hs 15 _ (by omega), had 1024 i ⟨rfl, rfl⟩]; exact h
  · next a0 a1 a2 a3 a10 a11 a12 a16 a17 a20 a21 a30 =>
    have had' : ∀ k' i', (i' = 0 ∧ (1510 ≤ k' ∧ k' ≤ 1529 ∨ 2510 ≤ k' ∧ k' ≤ 2512)) → ad' k' i' = ad k' i' := by
      intro k' i' hh
      apply had
      split
      · exact absurd rfl a0
      · exact absurd rfl a1
      · exact absurd rfl a2
      · exact absurd rfl a3
      · exact absurd rfl a10
      · exact absurd rfl a11
      · exact absurd rfl a12
      · exact absurd rfl a16
      · exact absurd rfl a17
      · exact absurd rfl a20
      · exact absurd rfl a21
      · exact absurd rfl a30
      · exact hh
    rw [hs 500 _ (by omega), hs 501 _ (by omega), hs 502 _ (by omega), hs 503 _ (by omega)]
    rw [had' 1510 _ (by omega), had' 1511 _ (by omega), had' 1512 _ (by omega), had' 1513 _ (by omega), had' 1514 _ (by omega), had' 2510 _ (by omega), had' 1515 _ (by omega), had' 1516 _ (by omega), had' 1517 _ (by omega), had' 1518 _ (by omega), had' 1519 _ (by omega), had' 1520 _ (by omega), had' 1521 _ (by omega), had' 1522 _ (by omega), had' 1523 _ (by omega), had' 1524 _ (by omega), had' 1525 _ (by omega), had' 1526 _ (by omega), had' 1527 _ (by omega), had' 1528 _ (by omega), had' 2511 _ (by omega), had' 2512 _ (by omega), had' 1529 _ (by omega)]
    exact h
/-- arrays: the same where their segments are -/
theorem rgd_ad {z k i : Nat} {c : gE} (hs : ∀ f j, (f < 20 ∨ (26 < f ∧ f < 42) ∨ (42 < f ∧ f < 510)) → σ' f j = σ f j) (ht : ∀ f j, f < 20 → τ' f j = τ f j) (had : ∀ k' i', rfs σ k i k' i' → ad' k' i' = ad k' i') (ha : 1000 ≤ k → k < 2000 → ∀ j, j < rln k → σ' (k - 1000) (i * rln k + j) = σ (k - 1000) (i * rln k + j)) (hb : 2000 ≤ k → ∀ j, j < rln k → τ' (k - 2000) (i * rln k + j) = τ (k - 2000) (i * rln k + j)) (h : rgd σ τ z ad k i c) : rgd σ' τ' z ad' k i c := by
  unfold rgd at h ⊢
  by_cases a1 : k < 1000
  · rw [if_pos a1] at h ⊢
    exact rgo_ad a1 hs ht had h
  · rw [if_neg a1] at h ⊢
    by_cases a2 : k < 2000
    · rw [if_pos a2] at h ⊢
      obtain ⟨q, e, hq⟩ := h
      exact ⟨q, e, fun j hj => by rw [ha (by omega) a2 j hj]; exact hq j hj⟩
    · rw [if_neg a2] at h ⊢
      obtain ⟨q, e, hq⟩ := h
      exact ⟨q, e, fun j hj => by rw [hb (by omega) j hj]; exact hq j hj⟩
/-- the kinds that a teller has -/
def tk (k : Nat) : Prop := k = 11 ∨ k = 12 ∨ k = 16 ∨ k = 1020 ∨ k = 1021 ∨ k = 1022 ∨ k = 2020 ∨ k = 2021
theorem rcn_t (σ : Nat → Nat → Nat) {k : Nat} (h : tk k) : rcn σ k = σ 42 1 := by
  unfold tk at h
  rcases h with rfl | rfl | rfl | rfl | rfl | rfl | rfl | rfl <;> rfl
theorem rcn_o {k : Nat} (h : ¬ tk k) (h1 : k ≠ 1) (h2 : k ≠ 2) (e0 : σ' 42 0 = σ 42 0) (e2 : σ' 42 2 = σ 42 2) (e3 : σ' 42 3 = σ 42 3) : rcn σ' k = rcn σ k := by
  unfold tk at h
  unfold rcn
  split <;> first | rfl | omega
def ntl (T k i : Nat) : Prop := (k = 1 ∧ i = 3 + T) ∨ (i = T ∧ tk k)
theorem ru_teller {T k i : Nat} (hT : σ 42 1 = T) (e1 : σ' 42 1 = T + 1) (e0 : σ' 42 0 = σ 42 0) (e2 : σ' 42 2 = σ 42 2) (e3 : σ' 42 3 = σ 42 3) (e40 : σ' 40 = σ 40) (hz : σ 40 (3 + T) = 0) (hu : ru σ' k i) : ntl T k i ∨ (ru σ k i ∧ ¬ ntl T k i) := by
  unfold ru at hu ⊢
  unfold ntl
  by_cases h1 : k = 1
  · subst h1
    have hc : i < 3 + σ' 42 1 := hu.1
    by_cases hi : i = 3 + T
    · exact Or.inl (Or.inl ⟨rfl, hi⟩)
    · exact Or.inr ⟨⟨(show i < 3 + σ 42 1 by omega), fun z => by omega⟩, fun w => by unfold tk at w; omega⟩
  by_cases h2 : k = 2
  · subst h2
    have hc : i < 3 + σ' 42 1 := hu.1
    have hp := hu.2 rfl
    rw [e40] at hp
    have : i ≠ 3 + T := fun w => by rw [w] at hp; omega
    exact Or.inr ⟨⟨(show i < 3 + σ 42 1 by omega), fun _ => hp⟩, fun w => by unfold tk at w; omega⟩
  by_cases ht : tk k
  · have hc := hu.1
    rw [rcn_t σ' ht] at hc
    by_cases hi : i = T
    · exact Or.inl (Or.inr ⟨hi, ht⟩)
    · exact Or.inr ⟨⟨by rw [rcn_t σ ht]; omega, fun z => absurd z h2⟩, fun w => by omega⟩
  · have hc := hu.1
    rw [rcn_o ht h1 h2 e0 e2 e3] at hc
    exact Or.inr ⟨⟨hc, fun z => absurd z h2⟩, fun w => w.elim (fun v => h1 v.1) (fun v => ht v.2)⟩
end AD
