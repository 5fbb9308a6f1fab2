/-! objects of the state -/
section RO
variable {n0 : Nat} {σ : Nat → Nat → Nat} {τ : Nat → Nat → Int64} {ad : Nat → Nat → Nat} {mm : gM}
theorem Rep.ob (h : Rep n0 σ τ ad mm) {k i : Nat} (hk : k < 1000) (hu : ru σ k i) : ∃ c, mm.1 (ad k i) = some c ∧ rgo σ τ (mm.2.2.2.1 0) ad k i c := by
  obtain ⟨c, hc, hg⟩ := h.1 k i hu
  unfold rgd at hg
  rw [if_pos hk] at hg
  exact ⟨c, hc, hg⟩
theorem u0 : ru σ 0 0 := ⟨Nat.zero_lt_one, fun h => by cases h⟩
theorem u3 : ru σ 3 0 := ⟨Nat.zero_lt_one, fun h => by cases h⟩
theorem u17 : ru σ 17 0 := ⟨Nat.zero_lt_one, fun h => by cases h⟩
theorem u100 : ru σ 100 0 := ⟨Nat.zero_lt_one, fun h => by cases h⟩
theorem u1 {l : Nat} (hl : l < 3 + σ 42 1) : ru σ 1 l := ⟨hl, fun h => by cases h⟩
theorem u2 {l : Nat} (hl : l < 3 + σ 42 1) (h0 : 0 < σ 40 l) : ru σ 2 l := ⟨hl, fun _ => h0⟩
theorem u10 {k : Nat} (hk : k < σ 42 0) : ru σ 10 k := ⟨hk, fun h => by cases h⟩
theorem u11 {t : Nat} (ht : t < σ 42 1) : ru σ 11 t := ⟨ht, fun h => by cases h⟩
theorem u12 {t : Nat} (ht : t < σ 42 1) : ru σ 12 t := ⟨ht, fun h => by cases h⟩
theorem u16 {t : Nat} (ht : t < σ 42 1) : ru σ 16 t := ⟨ht, fun h => by cases h⟩
theorem u20 {s : Nat} (hs : s < σ 42 2) : ru σ 20 s := ⟨hs, fun h => by cases h⟩
theorem u21 {q : Nat} (hs : q < 2 * σ 42 2) : ru σ 21 q := ⟨hs, fun h => by cases h⟩
theorem u30 {e : Nat} (he : e < σ 42 3) : ru σ 30 e := ⟨he, fun h => by cases h⟩
theorem u1020 {t : Nat} (ht : t < σ 42 1) : ru σ 1020 t := ⟨ht, fun h => by cases h⟩
theorem u1021 {t : Nat} (ht : t < σ 42 1) : ru σ 1021 t := ⟨ht, fun h => by cases h⟩
theorem u1022 {t : Nat} (ht : t < σ 42 1) : ru σ 1022 t := ⟨ht, fun h => by cases h⟩
theorem u1023 {q : Nat} (hs : q < 2 * σ 42 2) : ru σ 1023 q := ⟨hs, fun h => by cases h⟩
theorem u1024 {e : Nat} (he : e < σ 42 3) : ru σ 1024 e := ⟨he, fun h => by cases h⟩
theorem u1025 : ru σ 1025 0 := ⟨Nat.zero_lt_one, fun h => by cases h⟩
theorem u1026 : ru σ 1026 0 := ⟨Nat.zero_lt_one, fun h => by cases h⟩
theorem u2020 {t : Nat} (ht : t < σ 42 1) : ru σ 2020 t := ⟨ht, fun h => by cases h⟩
theorem u2021 {t : Nat} (ht : t < σ 42 1) : ru σ 2021 t := ⟨ht, fun h => by cases h⟩
theorem u2022 : ru σ 2022 0 := ⟨Nat.zero_lt_one, fun h => by cases h⟩
theorem Rep.oS (h : Rep n0 σ τ ad mm) : mm.1 (ad 0 0) = some (.inr (0, [.ref (ad 1 0), .ref (ad 1 1), .ref (ad 1 2), .ref (ad 3 0), .ref (ad 1026 0), .ref (ad 17 0), .int (nI (σ 1 0))])) := by
  obtain ⟨c, hc, hg⟩ := h.ob (by omega) (u0 (σ := σ))
  rw [hc]; exact congrArg some hg
theorem Rep.oNew (h : Rep n0 σ τ ad mm) : ∃ g : Nat → Option Nat, mm.1 (ad 3 0) = some (.inl (3, 128, .inr (.inr (.inr (.inr g))))) ∧ ∀ j, j < 128 → g j = rop (σ 16 j) (ad 10) := by
  obtain ⟨c, hc, hg⟩ := h.ob (by omega) (u3 (σ := σ))
  obtain ⟨g, rfl, hg⟩ := hg
  exact ⟨g, hc, hg⟩
theorem Rep.oTelling (h : Rep n0 σ τ ad mm) {i : Nat} (hi : i < σ 42 0) : mm.1 (ad 10 i) = some (.inr (7, [.int (nI (σ 4 i)), .int (nI (σ 5 i)), .int (nI (σ 6 i)), .int (nI (σ 7 i)), .long (τ 0 i), .int (nI (σ 8 i)), va_rf (rop (σ 9 i) (ad 10))])) := by
  obtain ⟨c, hc, hg⟩ := h.ob (by omega) (u10 hi)
  rw [hc]; exact congrArg some hg
theorem Rep.oTeller (h : Rep n0 σ τ ad mm) {i : Nat} (hi : i < σ 42 1) : mm.1 (ad 11 i) = some (.inr (1, [.ref (ad 1 (3 + i)), .ref (ad 12 i), .ref (ad 16 i), .int (nI (σ 10 i))])) := by
  obtain ⟨c, hc, hg⟩ := h.ob (by omega) (u11 hi)
  rw [hc]; exact congrArg some hg
theorem Rep.oBlocks (h : Rep n0 σ τ ad mm) {i : Nat} (hi : i < σ 42 1) : mm.1 (ad 12 i) = some (.inr (2, [.ref (ad 1020 i), .ref (ad 1021 i), .ref (ad 1022 i), .int (nI (σ 11 i))])) := by
  obtain ⟨c, hc, hg⟩ := h.ob (by omega) (u12 hi)
  rw [hc]; exact congrArg some hg
theorem Rep.oClock (h : Rep n0 σ τ ad mm) {i : Nat} (hi : i < σ 42 1) : mm.1 (ad 16 i) = some (.inr (3, [.ref (ad 2020 i), .ref (ad 2021 i), .int (nI (σ 12 i))])) := by
  obtain ⟨c, hc, hg⟩ := h.ob (by omega) (u16 hi)
  rw [hc]; exact congrArg some hg
theorem Rep.oCurrent (h : Rep n0 σ τ ad mm) : mm.1 (ad 17 0) = some (.inr (8, [.ref (ad 1025 0), .ref (ad 2022 0)])) := by
  obtain ⟨c, hc, hg⟩ := h.ob (by omega) (u17 (σ := σ))
  rw [hc]; exact congrArg some hg
theorem Rep.oSet (h : Rep n0 σ τ ad mm) {i : Nat} (hi : i < σ 42 2) : mm.1 (ad 20 i) = some (.inr (4, [.ref (ad 21 (2 * i)), .ref (ad 21 (2 * i + 1)), .int (nI (σ 13 i))])) := by
  obtain ⟨c, hc, hg⟩ := h.ob (by omega) (u20 hi)
  rw [hc]; exact congrArg some hg
theorem Rep.oHold (h : Rep n0 σ τ ad mm) {i : Nat} (hi : i < 2 * σ 42 2) : mm.1 (ad 21 i) = some (.inr (5, [.ref (ad 1023 i), .long (τ 1 i)])) := by
  obtain ⟨c, hc, hg⟩ := h.ob (by omega) (u21 hi)
  rw [hc]; exact congrArg some hg
theorem Rep.oSettling (h : Rep n0 σ τ ad mm) {i : Nat} (hi : i < σ 42 3) : mm.1 (ad 30 i) = some (.inr (6, [.int (nI (σ 14 i)), .int (nI (σ 15 i)), .ref (ad 1024 i)])) := by
  obtain ⟨c, hc, hg⟩ := h.ob (by omega) (u30 hi)
  rw [hc]; exact congrArg some hg
def rM (σ : Nat → Nat → Nat) (ad : Nat → Nat → Nat) : List Value := [.int (nI (σ 500 0)), .ref (ad 1510 0), .int (nI (σ 501 0)), .ref (ad 1511 0), .ref (ad 1512 0), .ref (ad 1513 0), .ref (ad 1514 0), .ref (ad 2510 0), .ref (ad 1515 0), .int (nI (σ 502 0)), .ref (ad 1516 0), .ref (ad 1517 0), .ref (ad 1518 0), .int (nI (σ 503 0)), .ref (ad 1519 0), .ref (ad 1520 0), .ref (ad 1521 0), .ref (ad 1522 0), .ref (ad 1523 0), .ref (ad 1524 0), .ref (ad 1525 0), .ref (ad 1526 0), .ref (ad 1527 0), .ref (ad 1528 0), .ref (ad 2511 0), .ref (ad 2512 0), .ref (ad 1529 0)]
theorem Rep.oM (h : Rep n0 σ τ ad mm) : mm.1 (ad 100 0) = some (.inr (10, rM σ ad)) := by
  obtain ⟨c, hc, hg⟩ := h.ob (by omega) (u100 (σ := σ))
  rw [hc]; exact congrArg some hg
/-- which scalar field of the state lies in which object -/
def rsc (k i f j : Nat) : Prop := (k = 0 ∧ f = 1) ∨ (k = 11 ∧ f = 10 ∧ j = i) ∨ (k = 12 ∧ f = 11 ∧ j = i) ∨ (k = 16 ∧ f = 12 ∧ j = i) ∨ (k = 20 ∧ f = 13 ∧ j = i) ∨ (k = 100 ∧ 500 ≤ f ∧ f ≤ 503)
theorem ru_M {k i : Nat} (hu : ru σ k i) (hk : k < 1000) (h0 : k ≠ 0) (h1 : k ≠ 1) (h2 : k ≠ 2) (h3 : k ≠ 3) (h10 : k ≠ 10) (h11 : k ≠ 11) (h12 : k ≠ 12) (h16 : k ≠ 16) (h17 : k ≠ 17) (h20 : k ≠ 20) (h21 : k ≠ 21) (h30 : k ≠ 30) : k = 100 ∧ i = 0 := by
  obtain ⟨hc, -⟩ := hu
  unfold rcn at hc
  split at hc <;> first | omega | (exact absurd hc (Nat.not_lt_zero _))
theorem rgo_sc {z k i f0 j0 k0 i0 v : Nat} {c : gE} (hu : ru σ k i) (hk : k < 1000) (hsc : rsc k0 i0 f0 j0) (hi0 : k0 = 0 ∨ k0 = 100 → i0 = 0) (hne : k ≠ k0 ∨ i ≠ i0) (h : rgo σ τ z ad k i c) : rgo (uS σ f0 j0 v) τ z ad k i c := by
  unfold rsc at hsc
  unfold rgo at h ⊢
  split at h
  · have hi : i = 0 := by have := hu.1; unfold rcn at this; simp only at this; omega
    rw [uS_f (by omega)]; exact h
  · rw [uS_f (by omega)]; exact h
  · obtain ⟨n, g, h1, h2, h3, h4, h5⟩ := h
    refine ⟨n, g, h1, by rw [uS_f (by omega)]; exact h2, h3, h4, fun j hj => ?_⟩
    rw [uS_f (by omega)] at hj
    rw [uS_f (by omega)]
    exact h5 j hj
  · obtain ⟨g, h1, h2⟩ := h
    exact ⟨g, h1, fun j hj => by rw [uS_f (by omega)]; exact h2 j hj⟩
  · rw [uS_f (by omega), uS_f (by omega), uS_f (by omega), uS_f (by omega), uS_f (by omega), uS_f (by omega)]; exact h
  · by_cases e : f0 = 10
    · rw [uS_i (by omega)]; exact h
    · rw [uS_f (by omega)]; exact h
  · by_cases e : f0 = 11
    · rw [uS_i (by omega)]; exact h
    · rw [uS_f (by omega)]; exact h
  · by_cases e : f0 = 12
    · rw [uS_i (by omega)]; exact h
    · rw [uS_f (by omega)]; exact h
  · exact h
  · by_cases e : f0 = 13
    · rw [uS_i (by omega)]; exact h
    · rw [uS_f (by omega)]; exact h
  · exact h
  · rw [uS_f (by omega), uS_f (by omega)]; exact h
  · next a0 a1 a2 a3 a10 a11 a12 a16 a17 a20 a21 a30 =>
    obtain ⟨e1, e2⟩ := ru_M hu hk (fun e => a0 e) (fun e => a1 e) (fun e => a2 e) (fun e => a3 e) (fun e => a10 e) (fun e => a11 e) (fun e => a12 e) (fun e => a16 e) (fun e => a17 e) (fun e => a20 e) (fun e => a21 e) (fun e => a30 e)
    clear a0 a1 a2 a3 a10 a11 a12 a16 a17 a20 a21 a30
    have hf : f0 < 500 := by
      rcases hsc with q | q | q | q | q | q
      · omega
      · omega
      · omega
      · omega
      · omega
      · exact absurd (hi0 (Or.inr q.1)) (by omega)
    clear hsc hi0 hne
    rw [uS_f (show (500 : Nat) ≠ f0 by omega), uS_f (show (501 : Nat) ≠ f0 by omega), uS_f (show (502 : Nat) ≠ f0 by omega), uS_f (show (503 : Nat) ≠ f0 by omega)]
    exact h
theorem Rep.putS (h : Rep n0 σ τ ad mm) {k0 i0 f0 j0 v ci p : Nat} {fs : List Value} {x : Value} (hu : ru σ k0 i0) (hk : k0 < 1000) (hsc : rsc k0 i0 f0 j0) (hi0 : k0 = 0 ∨ k0 = 100 → i0 = 0) (hcell : mm.1 (ad k0 i0) = some (.inr (ci, fs))) (hp : p < fs.length) (hnew : rgo (uS σ f0 j0 v) τ (mm.2.2.2.1 0) ad k0 i0 (.inr (ci, fs.set p x))) :
    ∃ mm' : gM, gpV ci p (some (ad k0 i0)) x mm = some mm' ∧ mm'.2 = mm.2 ∧ Rep n0 (uS σ f0 j0 v) τ ad mm' := by
  have hsc' := hsc
  unfold rsc at hsc'
  refine ⟨_, gpV_eq hcell hp x, rfl, ?_⟩
  refine h.write hu (fun k' i' h' => ru_of (fun i => uS_f (by omega)) (fun i => uS_f (by omega)) h') ?_ ?_
  · unfold rgd
    rw [if_pos hk]
    exact hnew
  · intro k' i' c hu' hne hg'
    unfold rgd at hg' ⊢
    by_cases a1 : k' < 1000
    · rw [if_pos a1] at hg' ⊢
      exact rgo_sc hu' a1 hsc hi0 hne hg'
    · rw [if_neg a1] at hg' ⊢
      by_cases a2 : k' < 2000
      · rw [if_pos a2] at hg' ⊢
        have hr := ru_ar (by omega) a2 hu'
        unfold rar at hr
        obtain ⟨q, e, hq⟩ := hg'
        exact ⟨q, e, fun j' hj' => by rw [uS_f (by omega)]; exact hq j' hj'⟩
      · rw [if_neg a2] at hg' ⊢
        exact hg'
/-- the bits of a holding -/
theorem Rep.putB (h : Rep n0 σ τ ad mm) {q : Nat} (hq : q < 2 * σ 42 2) (v : Int64) : ∃ mm' : gM, gpV 5 1 (some (ad 21 q)) (.long v) mm = some mm' ∧ mm'.2 = mm.2 ∧ Rep n0 σ (uT τ 1 q v) ad mm' := by
  refine ⟨_, gpV_eq (h.oHold hq) (Nat.le_of_ble_eq_true rfl) _, rfl, ?_⟩
  refine h.write (u21 hq) (fun _ _ h' => h') ?_ ?_
  · unfold rgd
    rw [if_pos (by omega)]
    show _ = _
    rw [uT_s]
    rfl
  · intro k' i' c hu' hne hg'
    unfold rgd at hg' ⊢
    by_cases a1 : k' < 1000
    · rw [if_pos a1] at hg' ⊢
      unfold rgo at hg' ⊢
      split at hg'
      · exact hg'
      · exact hg'
      · exact hg'
      · exact hg'
      · rw [uT_f (by omega)]; exact hg'
      · exact hg'
      · exact hg'
      · exact hg'
      · exact hg'
      · exact hg'
      · rw [uT_i (by omega)]; exact hg'
      · exact hg'
      · exact hg'
    · rw [if_neg a1] at hg' ⊢
      by_cases a2 : k' < 2000
      · rw [if_pos a2] at hg' ⊢
        exact hg'
      · rw [if_neg a2] at hg' ⊢
        have hr := ru_al (by omega) hu'
        obtain ⟨w, e, hw⟩ := hg'
        exact ⟨w, e, fun j' hj' => by rw [uT_f (by omega)]; exact hw j' hj'⟩
end RO
