/-! what holds between the class's state and the reference's -/
def cok (x : Int64) : Prop := 0 ≤ x ∧ x ≤ 1000000000
def vok (x : Int64) : Prop := -1000000000 ≤ x ∧ x ≤ 1000000000
/-- which holding of the class a row of the reference is -/
def hx (r : Nat) : Nat := if r < 12 then 2 * r else 2 * (r - 12) + 1
/-- x is the last one of a cell among the first m tellings (plus 1), or 0 -/
def Lst (σ : Nat → Nat → Nat) (m c x : Nat) : Prop := x ≤ m ∧ (∀ j, x ≤ j → j < m → σ 7 j ≠ c) ∧ (0 < x → σ 7 (x - 1) = c)
def I0 (σ : Nat → Nat → Nat) : Prop := σ 1 0 = σ 501 0 ∧ σ 42 0 = σ 501 0 ∧ σ 501 0 ≤ 200 ∧ σ 42 1 = σ 500 0 ∧ σ 40 0 = σ 500 0 ∧ σ 500 0 ≤ 8 ∧ σ 42 2 = σ 502 0 ∧ σ 40 1 = σ 502 0 ∧ σ 502 0 ≤ 12 ∧ σ 42 3 = σ 503 0 ∧ σ 40 2 = σ 503 0 ∧ σ 503 0 ≤ 40 ∧ (∀ j, j < σ 500 0 → σ 41 j = j) ∧ (∀ j, j < σ 502 0 → σ 41 (1000 + j) = j) ∧ (∀ j, j < σ 503 0 → σ 41 (2000 + j) = j)
def I1 (σ : Nat → Nat → Nat) (τ : Nat → Nat → Int64) : Prop := (∀ t, σ 10 t = σ 510 t ∧ σ 10 t ≤ 1 ∧ (σ 500 0 ≤ t → σ 10 t = 0)) ∧ (∀ t, σ 12 t = σ 528 t ∧ σ 12 t ≤ 6 ∧ (σ 500 0 ≤ t → σ 12 t = 0)) ∧ (∀ i, τ 20 i = τ 511 i) ∧ (∀ i, τ 21 i = τ 512 i) ∧ (∀ t j, j < σ 12 t → cok (τ 20 (t * 6 + j)) ∧ cok (τ 21 (t * 6 + j))) ∧ (∀ t j, j + 1 < σ 12 t → τ 20 (t * 6 + j) < τ 20 (t * 6 + (j + 1)) ∧ τ 21 (t * 6 + j) < τ 21 (t * 6 + (j + 1))) ∧ (∀ t j, σ 500 0 ≤ t → j < 6 → τ 20 (t * 6 + j) = 0 ∧ τ 21 (t * 6 + j) = 0)
def I2 (σ : Nat → Nat → Nat) : Prop := ∀ i, σ 26 i = σ 523 i ∧ σ 26 i ≤ 1
def I3 (σ : Nat → Nat → Nat) : Prop := ∀ s, σ 13 s = σ 518 s ∧ σ 13 s ≤ 1 ∧ (σ 502 0 ≤ s → σ 13 s = 0)
/-- the tellings -/
def I4 (σ : Nat → Nat → Nat) (τ : Nat → Nat → Int64) : Prop := (∀ k, k < σ 501 0 → σ 4 k = σ 511 k ∧ σ 4 k < σ 500 0 ∧ σ 6 k = σ 512 k ∧ 1 ≤ σ 6 k ∧ σ 6 k ≤ 9999 ∧ σ 7 k = σ 513 k * 8 + σ 514 k ∧ σ 513 k < 16 ∧ σ 514 k < 8 ∧ σ 8 k = σ 515 k ∧ σ 8 k ≤ 100000 ∧ τ 0 k = τ 510 k ∧ vok (τ 0 k)) ∧
  (∀ k j, k < σ 501 0 → j < σ 501 0 → σ 4 k = σ 4 j → σ 6 k = σ 6 j → k = j)
/-- orders and told lists -/
def I5 (σ : Nat → Nat → Nat) : Prop := (∀ k, k < σ 501 0 → σ 5 k < σ 40 (3 + σ 4 k)) ∧ (∀ t o, o < σ 40 (3 + t) → ∃ k, k < σ 501 0 ∧ σ 4 k = t ∧ σ 5 k = o) ∧ (∀ t, σ 500 0 ≤ t → σ 40 (3 + t) = 0) ∧ (∀ t, σ 40 (3 + t) ≤ σ 501 0) ∧
  (∀ t j, j < σ 40 (3 + t) → σ 41 ((3 + t) * 1000 + j) < σ 501 0 ∧ σ 4 (σ 41 ((3 + t) * 1000 + j)) = t) ∧ (∀ t j i, i < j → j < σ 40 (3 + t) → σ 6 (σ 41 ((3 + t) * 1000 + i)) < σ 6 (σ 41 ((3 + t) * 1000 + j))) ∧ (∀ k, k < σ 501 0 → ∃ j, j < σ 40 (3 + σ 4 k) ∧ σ 41 ((3 + σ 4 k) * 1000 + j) = k)
def I6 (σ : Nat → Nat → Nat) : Prop := (∀ c, Lst σ (σ 501 0) c (σ 16 c)) ∧ (∀ k, k < σ 501 0 → Lst σ k (σ 7 k) (σ 9 k))
/-- what sets hold -/
def I7 (σ : Nat → Nat → Nat) : Prop := (∀ h t, t < 8 → σ 23 (h * 8 + t) ≤ σ 40 (3 + t)) ∧ (∀ h t, t < 8 → 2 * σ 502 0 ≤ h → σ 23 (h * 8 + t) = 0) ∧ (∀ r k, r < 24 → k < 200 → σ 516 (r * 200 + k) = if k < σ 501 0 ∧ σ 5 k < σ 23 (hx r * 8 + σ 4 k) then 1 else 0)
def bit (x : Int64) (e : Nat) : Prop := x.toBitVec.getLsbD e = true
/-- settlings -/
def I8 (σ : Nat → Nat → Nat) (τ : Nat → Nat → Int64) : Prop := (∀ h e, bit (τ 1 h) e → e < σ 503 0) ∧ (∀ h, 2 * σ 502 0 ≤ h → τ 1 h = 0) ∧ (∀ r e, r < 24 → e < 40 → σ 517 (r * 40 + e) ≤ 1 ∧ (σ 517 (r * 40 + e) = 1 ↔ bit (τ 1 (hx r)) e)) ∧
  (∀ e, e < σ 503 0 → σ 14 e = σ 519 e * 8 + σ 520 e ∧ σ 519 e < 16 ∧ σ 520 e < 8 ∧ σ 15 e = σ 521 e ∧ σ 15 e < 8 ∧ σ 24 (e * 8 + σ 15 e) ≠ 0 ∧ (∀ t, t < 8 → σ 24 (e * 8 + t) < 10000) ∧ (∀ t, t < 8 → σ 24 (e * 8 + t) ≠ 0 → ∃ k, k < σ 501 0 ∧ σ 4 k = t ∧ σ 6 k = σ 24 (e * 8 + t))) ∧
  (∀ e k, e < 40 → k < 200 → σ 522 (e * 200 + k) = if e < σ 503 0 ∧ k < σ 501 0 ∧ σ 6 k = σ 24 (e * 8 + σ 4 k) then 1 else 0)
/-- n is in block i of t, in the class; in some block, in the reference -/
def inb (σ : Nat → Nat → Nat) (t n : Nat) (i : Nat) : Prop := i < σ 11 t ∧ σ 20 (t * 6 + i) ≤ n ∧ n ≤ σ 21 (t * 6 + i)
def inM (σ : Nat → Nat → Nat) (t n : Nat) : Prop := ∃ b, b < σ 524 t ∧ σ 525 (t * 6 + b) ≤ n ∧ n ≤ σ 526 (t * 6 + b)
def tld (σ : Nat → Nat → Nat) (t n : Nat) : Prop := ∃ k, k < σ 501 0 ∧ σ 4 k = t ∧ σ 6 k = n
def I9 (σ : Nat → Nat → Nat) : Prop := (∀ t, σ 11 t = σ 524 t ∧ σ 11 t ≤ 6 ∧ (σ 500 0 ≤ t → σ 11 t = 0)) ∧ (∀ t i, i < σ 11 t → 1 ≤ σ 20 (t * 6 + i) ∧ σ 20 (t * 6 + i) ≤ σ 21 (t * 6 + i) ∧ σ 21 (t * 6 + i) ≤ 9999 ∧ σ 20 (t * 6 + i) ≤ σ 22 (t * 6 + i) ∧ σ 22 (t * 6 + i) ≤ σ 21 (t * 6 + i) + 1) ∧
  (∀ t i j, i < j → j < σ 11 t → σ 21 (t * 6 + i) < σ 20 (t * 6 + j)) ∧ (∀ t b, b < σ 524 t → σ 525 (t * 6 + b) ≤ 9999 ∧ σ 526 (t * 6 + b) ≤ 9999) ∧ (∀ t n, inM σ t n ↔ ∃ i, inb σ t n i) ∧ (∀ t n, n < 10000 → σ 527 (t * 10000 + n) ≤ 1) ∧
  (∀ t n i, n < 10000 → inb σ t n i → (σ 527 (t * 10000 + n) = 1 → n < σ 22 (t * 6 + i)) ∧ (n < σ 22 (t * 6 + i) → σ 527 (t * 10000 + n) = 1 ∨ tld σ t n)) ∧ (∀ t n, n < 10000 → ¬ inM σ t n → σ 527 (t * 10000 + n) = 0)
def Inv (σ : Nat → Nat → Nat) (τ : Nat → Nat → Int64) : Prop := I0 σ ∧ I1 σ τ ∧ I2 σ ∧ I3 σ ∧ I4 σ τ ∧ I5 σ ∧ I6 σ ∧ I7 σ ∧ I8 σ τ ∧ I9 σ
section IC
variable {σ σ' : Nat → Nat → Nat} {τ τ' : Nat → Nat → Int64}
theorem uS_g {f i v g : Nat} (h : g ≠ f) : uS σ f i v g = σ g := funext (fun _ => uS_f h)
theorem uT_g {f i g : Nat} {v : Int64} (h : g ≠ f) : uT τ f i v g = τ g := funext (fun _ => uT_f h)
theorem I0.of (h : I0 σ) (e : ∀ f, (f = 1 ∨ f = 40 ∨ f = 41 ∨ f = 42 ∨ f = 500 ∨ f = 501 ∨ f = 502 ∨ f = 503) → σ' f = σ f) : I0 σ' := by
  unfold I0
  rw [e 1 (by omega), e 40 (by omega), e 41 (by omega), e 42 (by omega), e 500 (by omega), e 501 (by omega), e 502 (by omega), e 503 (by omega)]
  exact h
theorem I1.of (h : I1 σ τ) (e : ∀ f, (f = 10 ∨ f = 12 ∨ f = 500 ∨ f = 510 ∨ f = 528) → σ' f = σ f) (d : ∀ f, (f = 20 ∨ f = 21 ∨ f = 511 ∨ f = 512) → τ' f = τ f) : I1 σ' τ' := by
  unfold I1
  rw [e 10 (by omega), e 12 (by omega), e 500 (by omega), e 510 (by omega), e 528 (by omega), d 20 (by omega), d 21 (by omega), d 511 (by omega), d 512 (by omega)]
  exact h
theorem I2.of (h : I2 σ) (e : ∀ f, (f = 26 ∨ f = 523) → σ' f = σ f) : I2 σ' := by
  unfold I2
  rw [e 26 (by omega), e 523 (by omega)]
  exact h
theorem I3.of (h : I3 σ) (e : ∀ f, (f = 13 ∨ f = 502 ∨ f = 518) → σ' f = σ f) : I3 σ' := by
  unfold I3
  rw [e 13 (by omega), e 502 (by omega), e 518 (by omega)]
  exact h
theorem I4.of (h : I4 σ τ) (e : ∀ f, (f = 4 ∨ f = 6 ∨ f = 7 ∨ f = 8 ∨ f = 500 ∨ f = 501 ∨ f = 511 ∨ f = 512 ∨ f = 513 ∨ f = 514 ∨ f = 515) → σ' f = σ f) (d : ∀ f, (f = 0 ∨ f = 510) → τ' f = τ f) : I4 σ' τ' := by
  unfold I4
  rw [e 4 (by omega), e 6 (by omega), e 7 (by omega), e 8 (by omega), e 500 (by omega), e 501 (by omega), e 511 (by omega), e 512 (by omega), e 513 (by omega), e 514 (by omega), e 515 (by omega), d 0 (by omega), d 510 (by omega)]
  exact h
theorem I5.of (h : I5 σ) (e : ∀ f, (f = 4 ∨ f = 5 ∨ f = 6 ∨ f = 40 ∨ f = 41 ∨ f = 500 ∨ f = 501) → σ' f = σ f) : I5 σ' := by
  unfold I5
  rw [e 4 (by omega), e 5 (by omega), e 6 (by omega), e 40 (by omega), e 41 (by omega), e 500 (by omega), e 501 (by omega)]
  exact h
theorem I6.of (h : I6 σ) (e : ∀ f, (f = 7 ∨ f = 9 ∨ f = 16 ∨ f = 501) → σ' f = σ f) : I6 σ' := by
  unfold I6 Lst
  rw [e 7 (by omega), e 9 (by omega), e 16 (by omega), e 501 (by omega)]
  exact h
theorem I7.of (h : I7 σ) (e : ∀ f, (f = 4 ∨ f = 5 ∨ f = 23 ∨ f = 40 ∨ f = 501 ∨ f = 502 ∨ f = 516) → σ' f = σ f) : I7 σ' := by
  unfold I7
  rw [e 4 (by omega), e 5 (by omega), e 23 (by omega), e 40 (by omega), e 501 (by omega), e 502 (by omega), e 516 (by omega)]
  exact h
theorem I8.of (h : I8 σ τ) (e : ∀ f, (f = 4 ∨ f = 6 ∨ f = 14 ∨ f = 15 ∨ f = 24 ∨ f = 501 ∨ f = 502 ∨ f = 503 ∨ f = 517 ∨ f = 519 ∨ f = 520 ∨ f = 521 ∨ f = 522) → σ' f = σ f) (d : τ' 1 = τ 1) : I8 σ' τ' := by
  unfold I8
  rw [e 4 (by omega), e 6 (by omega), e 14 (by omega), e 15 (by omega), e 24 (by omega), e 501 (by omega), e 502 (by omega), e 503 (by omega), e 517 (by omega), e 519 (by omega), e 520 (by omega), e 521 (by omega), e 522 (by omega), d]
  exact h
theorem I9.of (h : I9 σ) (e : ∀ f, (f = 4 ∨ f = 6 ∨ f = 11 ∨ f = 20 ∨ f = 21 ∨ f = 22 ∨ f = 500 ∨ f = 501 ∨ f = 524 ∨ f = 525 ∨ f = 526 ∨ f = 527) → σ' f = σ f) : I9 σ' := by
  unfold I9 inM inb tld
  rw [e 4 (by omega), e 6 (by omega), e 11 (by omega), e 20 (by omega), e 21 (by omega), e 22 (by omega), e 500 (by omega), e 501 (by omega), e 524 (by omega), e 525 (by omega), e 526 (by omega), e 527 (by omega)]
  exact h
/-- only the rows of the current tellings have changed -/
theorem Inv.cur (h : Inv σ τ) (e : ∀ f, f ≠ 25 → f ≠ 529 → σ' f = σ f) (d : ∀ f, f ≠ 22 → τ' f = τ f) : Inv σ' τ' := by
  obtain ⟨h0, h1, h2, h3, h4, h5, h6, h7, h8, h9⟩ := h
  exact ⟨h0.of (fun f hf => e f (by omega) (by omega)), h1.of (fun f hf => e f (by omega) (by omega)) (fun f hf => d f (by omega)), h2.of (fun f hf => e f (by omega) (by omega)), h3.of (fun f hf => e f (by omega) (by omega)), h4.of (fun f hf => e f (by omega) (by omega)) (fun f hf => d f (by omega)), h5.of (fun f hf => e f (by omega) (by omega)), h6.of (fun f hf => e f (by omega) (by omega)), h7.of (fun f hf => e f (by omega) (by omega)), h8.of (fun f hf => e f (by omega) (by omega)) (d 1 (by omega)), h9.of (fun f hf => e f (by omega) (by omega))⟩
end IC
theorem Rep.mid {n0 : Nat} {σ : Nat → Nat → Nat} {τ : Nat → Nat → Int64} {ad ad' : Nat → Nat → Nat} {mm : gM} (h : Rep n0 σ τ ad' mm) (e : ad' 100 0 = ad 100 0) : (∀ p, p < n0 → mm.1 p = none) ∧ grc 10 (some (ad 100 0)) mm = some (ad 100 0) :=
  ⟨h.2.2.2.2.1, by rw [← e]; exact h.xM.1⟩
def Step {α : Type} (n0 : Nat) (ad : Nat → Nat → Nat) (mm : gM) (FS FM : gM → Option (α × gM)) : Prop := ∃ (r : α) (mm1 mm2 : gM) (σ' : Nat → Nat → Nat) (τ' : Nat → Nat → Int64) (ad' : Nat → Nat → Nat), FS mm = some (r, mm1) ∧ FM mm1 = some (r, mm2) ∧ Rep n0 σ' τ' ad' mm2 ∧ Inv σ' τ' ∧ ad' 0 0 = ad 0 0 ∧ ad' 100 0 = ad 100 0 ∧
  ((∀ p, p < n0 → mm1.1 p = none) ∧ grc 10 (some (ad 100 0)) mm1 = some (ad 100 0)) ∧ mm1.2.2.2 = mm.2.2.2 ∧ mm2.2.1 ≤ mm.2.1 + 20 ∧ mm2.2.2.1 ≤ mm.2.2.1 + 2000 ∧ mm2.2.2.2 = mm.2.2.2
section ST
variable {α : Type} {n0 : Nat} {σ σ1 σ' : Nat → Nat → Nat} {τ τ1 τ' : Nat → Nat → Int64} {ad : Nat → Nat → Nat} {mm mm1 mm2 : gM} {FS FM : gM → Option (α × gM)} {r : α}
theorem Step.mk0 (h1 : FS mm = some (r, mm1)) (e1 : mm1.2 = mm.2) (R1 : Rep n0 σ1 τ1 ad mm1) (h2 : FM mm1 = some (r, mm2)) (e2 : mm2.2 = mm1.2) (R2 : Rep n0 σ' τ' ad mm2) (hI : Inv σ' τ') : Step n0 ad mm FS FM :=
  ⟨r, mm1, mm2, σ', τ', ad, h1, h2, R2, hI, rfl, rfl, R1.mid rfl, by rw [e1], by rw [e2, e1]; omega, by rw [e2, e1]; omega, by rw [e2, e1]⟩
theorem Step.same (h : Rep n0 σ τ ad mm) (hI : Inv σ τ) (h1 : FS mm = some (r, mm)) (h2 : FM mm = some (r, mm)) : Step n0 ad mm FS FM := Step.mk0 h1 rfl h h2 rfl h hI
theorem nI_z {n : Nat} (h : n < 2 ^ 31) : nI n = 0 ↔ n = 0 := by
  rw [← nI_0]
  exact nI_eq h (by omega)
theorem ix8 (p k : Nat) : nI p * 8 + nI k = nI (p * 8 + k) := by rw [show (8 : Int32) = nI 8 from rfl, pk_mul, nI_add]
theorem ix8' (p k : Nat) : 8 * nI p + nI k = nI (p * 8 + k) := by rw [show (8 : Int32) = nI 8 from rfl, pk_mul, nI_add, Nat.mul_comm]
theorem ix6 (p k : Nat) : 6 * nI p + nI k = nI (p * 6 + k) := by rw [show (6 : Int32) = nI 6 from rfl, pk_mul, nI_add, Nat.mul_comm]
theorem ix40 (p k : Nat) : 40 * nI p + nI k = nI (p * 40 + k) := by rw [show (40 : Int32) = nI 40 from rfl, pk_mul, nI_add, Nat.mul_comm]
theorem ix200 (p k : Nat) : 200 * nI p + nI k = nI (p * 200 + k) := by rw [show (200 : Int32) = nI 200 from rfl, pk_mul, nI_add, Nat.mul_comm]
theorem ix10000 (p k : Nat) : 10000 * nI p + nI k = nI (p * 10000 + k) := by rw [show (10000 : Int32) = nI 10000 from rfl, pk_mul, nI_add, Nat.mul_comm]
theorem ix12 (s : Nat) : 12 + nI s = nI (12 + s) := by rw [show (12 : Int32) = nI 12 from rfl, nI_add]
end ST
