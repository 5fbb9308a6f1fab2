/-! the value of a cell, in the class -/
def sm (g : Nat → Nat) : Nat → Nat
  | 0 => 0
  | n + 1 => sm g n + g n
theorem sm_congr {g g' : Nat → Nat} {n : Nat} (h : ∀ i, i < n → g i = g' i) : sm g n = sm g' n := by
  induction n with
  | zero => rfl
  | succ n ih =>
    show sm g n + g n = sm g' n + g' n
    rw [ih (fun i hi => h i (by omega)), h n (by omega)]
theorem sm_le {g : Nat → Nat} {n : Nat} (h : ∀ i, i < n → g i ≤ 1) : sm g n ≤ n := by
  induction n with
  | zero => exact Nat.le_refl _
  | succ n ih =>
    have := ih (fun i hi => h i (by omega))
    have := h n (by omega)
    show sm g n + g n ≤ n + 1
    omega
theorem sm_zero {g : Nat → Nat} {n : Nat} : sm g n = 0 ↔ ∀ i, i < n → g i = 0 := by
  induction n with
  | zero => exact ⟨fun _ i hi => by omega, fun _ => rfl⟩
  | succ n ih =>
    show sm g n + g n = 0 ↔ _
    constructor
    · intro h i hi
      by_cases e : i = n
      · subst e; omega
      · exact ih.mp (by omega) i (by omega)
    · intro h
      have a := ih.mpr (fun i hi => h i (by omega))
      have b := h n (by omega)
      omega
def nz (n : Nat → Nat) (t : Nat) : Nat := if n t = 0 then 0 else 1
theorem nz_le (n : Nat → Nat) (t : Nat) : nz n t ≤ 1 := by
  unfold nz
  split <;> omega
/-- a settling that goes for these numbers -/
def mde (σ : Nat → Nat → Nat) (τ : Nat → Nat → Int64) (n : Nat → Nat) (q c e : Nat) : Prop := bit (τ 1 q) e ∧ σ 14 e = c ∧ ∀ t, t < 8 → σ 24 (e * 8 + t) = n t
def Val (σ : Nat → Nat → Nat) (τ : Nat → Nat → Int64) (n : Nat → Nat) (v : Nat → Int64) (q c : Nat) (R : Int64) : Prop :=
  ((∀ t, t < 8 → n t = 0) ∧ R = -9223372036854775808) ∨
  (∃ t, t < 8 ∧ n t ≠ 0 ∧ R = v t ∧ ∀ t', t' < 8 → n t' ≠ 0 → v t' = v t) ∨
  ((∃ t t', t < 8 ∧ t' < 8 ∧ n t ≠ 0 ∧ n t' ≠ 0 ∧ v t ≠ v t') ∧ ((∃ e, e < σ 503 0 ∧ mde σ τ n q c e ∧ (∀ e', e < e' → e' < σ 503 0 → ¬ mde σ τ n q c e') ∧ R = v (σ 15 e)) ∨ ((∀ e, e < σ 503 0 → ¬ mde σ τ n q c e) ∧ R = -9223372036854775808)))
section VA
variable {n0 : Nat} {σ σ' σ'' : Nat → Nat → Nat} {τ τ' τ'' : Nat → Nat → Int64} {ad : Nat → Nat → Nat} {mm : gM}
theorem Val.uniq {n : Nat → Nat} {v : Nat → Int64} {q c : Nat} {R R' : Int64} (h : Val σ τ n v q c R) (h' : Val σ τ n v q c R') : R = R' := by
  rcases h with ⟨a1, a2⟩ | ⟨t, a1, a2, a3, a4⟩ | ⟨⟨t, t', a1, a2, a3, a4, a5⟩, a6⟩
  · rcases h' with ⟨b1, b2⟩ | ⟨t, b1, b2, b3, b4⟩ | ⟨⟨t, t', b1, b2, b3, b4, b5⟩, b6⟩
    · rw [a2, b2]
    · exact absurd (a1 t b1) b2
    · exact absurd (a1 t b1) b3
  · rcases h' with ⟨b1, b2⟩ | ⟨t', b1, b2, b3, b4⟩ | ⟨⟨s, s', b1, b2, b3, b4, b5⟩, b6⟩
    · exact absurd (b1 t a1) a2
    · rw [a3, b3, a4 t' b1 b2]
    · exact absurd ((a4 s b1 b3).trans (a4 s' b2 b4).symm) b5
  · rcases h' with ⟨b1, b2⟩ | ⟨s, b1, b2, b3, b4⟩ | ⟨-, b6⟩
    · exact absurd (b1 t a1) a3
    · exact absurd ((b4 t a1 a3).trans (b4 t' a2 a4).symm) a5
    · rcases a6 with ⟨e, c1, c2, c3, c4⟩ | ⟨c1, c2⟩
      · rcases b6 with ⟨e', d1, d2, d3, d4⟩ | ⟨d1, d2⟩
        · rcases Nat.lt_trichotomy e e' with z | z | z
          · exact absurd d2 (c3 e' z d1)
          · rw [c4, d4, z]
          · exact absurd c2 (d3 e z c1)
        · exact absurd c2 (d1 e c1)
      · rcases b6 with ⟨e', d1, d2, d3, d4⟩ | ⟨d1, d2⟩
        · exact absurd d2 (c1 e' d1)
        · rw [c2, d2]
theorem v_nov {x : Int64} (h : vok x) : x ≠ -9223372036854775808 := by
  intro z
  rw [z] at h
  exact absurd h.1 (by decide)
theorem IsCur.num (hI : Inv σ τ) {P : Nat → Prop} (hP : ∀ j, P j → j < σ 501 0) {n : Nat → Nat} {v : Nat → Int64} (h : IsCur σ τ P n v) {t : Nat} (ht : t < 8) : n t < 10000 ∧ (n t ≠ 0 → vok (v t)) := by
  obtain ⟨h0, h1, h2, h3, h4, -⟩ := hI
  rcases h t ht with ⟨a, -⟩ | ⟨k, a1, a2, a3, a4, -⟩
  · exact ⟨by omega, fun z => absurd a z⟩
  · obtain ⟨b1, b2, b3, b4, b5, b6, b7, b8, b9, b10, b11, b12⟩ := h4.1 k (hP k a1)
    exact ⟨by omega, fun _ => by rw [a4]; exact b12⟩
theorem S_has (h : Rep n0 σ τ ad mm) {t : Nat} (ht : t < 8) (hb : σ 25 t < 2 ^ 31) : F_Current_has (ad 17 0) (nI t) mm = some (nI (nz (σ 25) t), mm) := by
  unfold F_Current_has nz
  rw [if_neg (nI_pos (by omega)), if_neg (show ¬ (8 : Int32) ≤ nI t from nI_ge (b := 8) ht (by omega))]
  simp only [h.xS, gb1_some, h.a25 ht]
  by_cases z : σ 25 t = 0
  · rw [if_pos (by rw [z]; rfl), if_pos z]
    rfl
  · rw [if_neg (fun w => z ((nI_z hb).mp w)), if_neg z]
    rfl
theorem count_loop (h : Rep n0 σ τ ad mm) (hb : ∀ t, t < 8 → σ 25 t < 2 ^ 31) {K : Int32 → gM → Option (Int32 × gM)} (d : Nat) : ∀ (t f : Nat), t + d = 8 → d < f → L_Current_count_4 K f (some (ad 17 0)) (nI (sm (nz (σ 25)) t)) (nI t) mm = K (nI (sm (nz (σ 25)) 8)) mm := by
  induction d with
  | zero =>
    intro t f ht hf
    obtain ⟨f, rfl⟩ : ∃ g, f = g + 1 := ⟨f - 1, by omega⟩
    have : t = 8 := by omega
    subst this
    rw [L_Current_count_4, if_pos (by decide)]
  | succ d ih =>
    intro t f ht hf
    obtain ⟨f, rfl⟩ : ∃ g, f = g + 1 := ⟨f - 1, by omega⟩
    rw [L_Current_count_4, if_neg (show ¬ (8 : Int32) ≤ nI t from nI_ge (b := 8) (by omega) (by omega))]
    simp only [h.xS, gb1_some, S_has h (t := t) (by omega) (hb t (by omega)), gb2_some, gLet_eq, nI_1]
    have i := ih (t + 1) f (by omega) (by omega)
    rw [show sm (nz (σ 25)) (t + 1) = sm (nz (σ 25)) t + nz (σ 25) t from rfl] at i
    by_cases z : nz (σ 25) t = 0
    · rw [if_pos (by rw [z]; rfl)]
      rw [z] at i
      exact i
    · have z1 : nz (σ 25) t = 1 := by have := nz_le (σ 25) t; omega
      rw [if_neg (by rw [z1]; decide)]
      rw [z1] at i
      exact i
theorem S_count (h : Rep n0 σ τ ad mm) (hb : ∀ t, t < 8 → σ 25 t < 2 ^ 31) : F_Current_count (ad 17 0) mm = some (nI (sm (nz (σ 25)) 8), mm) := by
  unfold F_Current_count
  obtain ⟨f, hf, hfe⟩ := gF_big
  rw [hfe]
  exact count_loop h hb 8 0 f (by omega) (by omega)
theorem common_loop (h : Rep n0 σ τ ad mm) (hb : ∀ t, t < 8 → σ 25 t < 2 ^ 31 ∧ (σ 25 t ≠ 0 → τ 22 t ≠ -9223372036854775808)) {K0 : gM → Option (Int64 × gM)} {K1 : Int64 → gM → Option (Int64 × gM)} (d : Nat) : ∀ (t f : Nat) (p : Int64), t + d = 8 → d < f → ((p = -9223372036854775808 ∧ ∀ t', t' < t → σ 25 t' = 0) ∨ (∃ t0, t0 < t ∧ σ 25 t0 ≠ 0 ∧ p = τ 22 t0 ∧ ∀ t', t' < t → σ 25 t' ≠ 0 → τ 22 t' = τ 22 t0)) →
    ((∃ t t', t < 8 ∧ t' < 8 ∧ σ 25 t ≠ 0 ∧ σ 25 t' ≠ 0 ∧ τ 22 t ≠ τ 22 t') ∧ L_Current_commonValue_6 K0 K1 f (some (ad 17 0)) p (nI t) mm = K0 mm) ∨ ((∀ t, t < 8 → σ 25 t = 0) ∧ L_Current_commonValue_6 K0 K1 f (some (ad 17 0)) p (nI t) mm = K1 (-9223372036854775808) mm) ∨ (∃ t0, t0 < 8 ∧ σ 25 t0 ≠ 0 ∧ (∀ t', t' < 8 → σ 25 t' ≠ 0 → τ 22 t' = τ 22 t0) ∧ L_Current_commonValue_6 K0 K1 f (some (ad 17 0)) p (nI t) mm = K1 (τ 22 t0) mm) := by
  induction d with
  | zero =>
    intro t f p ht hf hp
    obtain ⟨f, rfl⟩ : ∃ g, f = g + 1 := ⟨f - 1, by omega⟩
    have : t = 8 := by omega
    subst this
    rw [L_Current_commonValue_6, if_pos (by decide)]
    rcases hp with ⟨rfl, z⟩ | ⟨t0, z1, z2, rfl, z4⟩
    · exact Or.inr (Or.inl ⟨z, rfl⟩)
    · exact Or.inr (Or.inr ⟨t0, z1, z2, z4, rfl⟩)
  | succ d ih =>
    intro t f p ht hf hp
    obtain ⟨f, rfl⟩ : ∃ g, f = g + 1 := ⟨f - 1, by omega⟩
    obtain ⟨b1, b2⟩ := hb t (by omega)
    rw [L_Current_commonValue_6, if_neg (show ¬ (8 : Int32) ≤ nI t from nI_ge (b := 8) (by omega) (by omega))]
    simp only [h.xS, gb1_some, S_has h (t := t) (by omega) b1, gb2_some, gLet_eq, nI_1, h.b22 (j := t) (by omega)]
    by_cases z : σ 25 t = 0
    · rw [if_pos (show nI (nz (σ 25) t) = 0 by unfold nz; rw [if_pos z]; rfl)]
      refine ih (t + 1) f p (by omega) (by omega) ?_
      rcases hp with ⟨y1, y2⟩ | ⟨t0, y1, y2, y3, y4⟩
      · left
        refine ⟨y1, fun t' ht' => ?_⟩
        by_cases e : t' = t
        · subst e; exact z
        · exact y2 t' (by omega)
      · right
        refine ⟨t0, by omega, y2, y3, fun t' ht' => ?_⟩
        by_cases e : t' = t
        · subst e; exact fun w => absurd z w
        · exact y4 t' (by omega)
    · rw [if_neg (show ¬ nI (nz (σ 25) t) = 0 by unfold nz; rw [if_neg z]; decide)]
      rcases hp with ⟨y1, y2⟩ | ⟨t0, y1, y2, y3, y4⟩
      · rw [if_pos y1]
        refine ih (t + 1) f (τ 22 t) (by omega) (by omega) (Or.inr ⟨t, by omega, z, rfl, fun t' ht' hn => ?_⟩)
        by_cases e : t' = t
        · subst e; rfl
        · exact absurd (y2 t' (by omega)) hn
      · rw [if_neg (fun w => (hb t0 (by omega)).2 y2 (y3.symm.trans w))]
        by_cases e : p = τ 22 t
        · rw [if_pos e]
          refine ih (t + 1) f (τ 22 t) (by omega) (by omega) (Or.inr ⟨t0, by omega, y2, e.symm.trans y3, fun t' ht' hn => ?_⟩)
          by_cases e' : t' = t
          · subst e'; exact e.symm.trans y3
          · exact y4 t' (by omega) hn
        · rw [if_neg e]
          exact Or.inl ⟨⟨t0, t, by omega, by omega, y2, z, fun w => e (y3.trans w)⟩, rfl⟩
theorem made_loop (h : Rep n0 σ τ ad mm) {e : Nat} (he : e < σ 42 3) (hb : ∀ t, t < 8 → σ 25 t < 2 ^ 31 ∧ σ 24 (e * 8 + t) < 2 ^ 31) {K0 K1 : gM → Option (Int32 × gM)} (d : Nat) : ∀ (t f : Nat), t + d = 8 → d < f →
    ((∀ j, t ≤ j → j < 8 → σ 24 (e * 8 + j) = σ 25 j) ∧ L_Settling_isMadeFor_12 K0 K1 f (some (ad 30 e)) (some (ad 17 0)) (nI t) mm = K1 mm) ∨ (¬ (∀ j, t ≤ j → j < 8 → σ 24 (e * 8 + j) = σ 25 j) ∧ L_Settling_isMadeFor_12 K0 K1 f (some (ad 30 e)) (some (ad 17 0)) (nI t) mm = K0 mm) := by
  induction d with
  | zero =>
    intro t f ht hf
    obtain ⟨f, rfl⟩ : ∃ g, f = g + 1 := ⟨f - 1, by omega⟩
    left
    refine ⟨fun j j1 j2 => by omega, ?_⟩
    rw [L_Settling_isMadeFor_12, if_pos (show (8 : Int32) ≤ nI t from nI_le (a := 8) (by omega) (by omega))]
  | succ d ih =>
    intro t f ht hf
    obtain ⟨f, rfl⟩ : ∃ g, f = g + 1 := ⟨f - 1, by omega⟩
    obtain ⟨b1, b2⟩ := hb t (by omega)
    rw [L_Settling_isMadeFor_12, if_neg (show ¬ (8 : Int32) ≤ nI t from nI_ge (b := 8) (by omega) (by omega))]
    simp only [h.xS, h.xSe he, gb1_some, h.a24 he (j := t) (by omega), h.a25 (j := t) (by omega), gLet_eq, nI_1]
    by_cases z : σ 24 (e * 8 + t) = σ 25 t
    · rw [if_pos (by rw [z])]
      rcases ih (t + 1) f (by omega) (by omega) with ⟨z1, z2⟩ | ⟨z1, z2⟩
      · left
        refine ⟨fun j j1 j2 => ?_, z2⟩
        by_cases w : j = t
        · subst w; exact z
        · exact z1 j (by omega) j2
      · right
        exact ⟨fun w => z1 (fun j j1 j2 => w j (by omega) j2), z2⟩
    · right
      rw [if_neg (fun w => z ((nI_eq b2 b1).mp w))]
      exact ⟨fun w => z (w t (by omega) (by omega)), rfl⟩
theorem S_made (h : Rep n0 σ τ ad mm) {e c : Nat} (he : e < σ 42 3) (hc : c < 128) (h14 : σ 14 e < 128) (hb : ∀ t, t < 8 → σ 25 t < 2 ^ 31 ∧ σ 24 (e * 8 + t) < 2 ^ 31) :
    ((σ 14 e = c ∧ ∀ t, t < 8 → σ 24 (e * 8 + t) = σ 25 t) ∧ F_Settling_isMadeFor (ad 30 e) (nI c) (some (ad 17 0)) mm = some (1, mm)) ∨ (¬ (σ 14 e = c ∧ ∀ t, t < 8 → σ 24 (e * 8 + t) = σ 25 t) ∧ F_Settling_isMadeFor (ad 30 e) (nI c) (some (ad 17 0)) mm = some (0, mm)) := by
  unfold F_Settling_isMadeFor
  obtain ⟨f, hf, hfe⟩ := gF_big
  rw [hfe]
  simp only [h.xSe he, gb1_some]
  by_cases z : σ 14 e = c
  · rw [if_pos (by rw [z])]
    rcases made_loop h he hb (K0 := fun mm => some ((0 : Int32), mm)) (K1 := fun mm => some ((1 : Int32), mm)) 8 0 f (by omega) (by omega) with ⟨z1, z2⟩ | ⟨z1, z2⟩
    · exact Or.inl ⟨⟨z, fun t ht => z1 t (by omega) ht⟩, z2⟩
    · exact Or.inr ⟨fun w => z1 (fun t _ ht => w.2 t ht), z2⟩
  · right
    rw [if_neg (fun w => z ((nI_eq (by omega) (by omega)).mp w))]
    exact ⟨fun w => z w.1, rfl⟩
end VA
