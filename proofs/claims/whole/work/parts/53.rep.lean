/-! THE STATE: σ (naturals by field and place), τ (longs). The memory holds it, by roles: kind k, index i, at the address ad k i.
Class. σ 1 0 tellings; telling k: σ 4 who, 5 order, 6 number, 7 cell, τ 0 value, σ 8 on, σ 9 the earlier one of its cell (plus 1; 0 none); σ 16 c the newest of a cell (plus 1).
Lists ℓ (0 tellers, 1 sets, 2 settlings, 3 + t told by t): σ 40 ℓ how many, σ 41 (ℓ * 1000 + j) which. Teller t: σ 10 closed, 11 blocks, 12 marks. Set s: σ 13 in batch; holding h (2 s now, 2 s + 1 shown): τ 1 bits. Settling e: σ 14 cell, 15 teller.
Arrays: kind 1000 + f holds σ f, kind 2000 + f holds τ f, in segments. 20 from, 21 to, 22 next (6 a teller), 23 told by (8 a holding), 24 numbers (8 a settling), 25 current numbers, 26 rights; τ 20 seconds, 21 reals, 22 current values.
Made so far: σ 42 0 tellings, 1 tellers, 2 sets, 3 settlings.
Reference: σ 500 tellers, 501 tellings, 502 sets, 503 settlings; its arrays 510 .. 529, τ 510 .. 512 in the order of its fields. -/
def uS (σ : Nat → Nat → Nat) (f i v : Nat) : Nat → Nat → Nat := fun g j => if g = f ∧ j = i then v else σ g j
def uT (τ : Nat → Nat → Int64) (f i : Nat) (v : Int64) : Nat → Nat → Int64 := fun g j => if g = f ∧ j = i then v else τ g j
theorem uS_s (σ : Nat → Nat → Nat) (f i v : Nat) : uS σ f i v f i = v := if_pos ⟨rfl, rfl⟩
theorem uS_f {σ : Nat → Nat → Nat} {f i v g j : Nat} (h : g ≠ f) : uS σ f i v g j = σ g j := if_neg (fun z => h z.1)
theorem uS_i {σ : Nat → Nat → Nat} {f i v g j : Nat} (h : j ≠ i) : uS σ f i v g j = σ g j := if_neg (fun z => h z.2)
theorem uT_s (τ : Nat → Nat → Int64) (f i : Nat) (v : Int64) : uT τ f i v f i = v := if_pos ⟨rfl, rfl⟩
theorem uT_f {τ : Nat → Nat → Int64} {f i g j : Nat} {v : Int64} (h : g ≠ f) : uT τ f i v g j = τ g j := if_neg (fun z => h z.1)
theorem uT_i {τ : Nat → Nat → Int64} {f i g j : Nat} {v : Int64} (h : j ≠ i) : uT τ f i v g j = τ g j := if_neg (fun z => h z.2)
def rln (k : Nat) : Nat := match k with
  | 1020 => 6 | 1021 => 6 | 1022 => 6 | 1023 => 8 | 1024 => 8 | 1025 => 8 | 1026 => 80
  | 2020 => 6 | 2021 => 6 | 2022 => 8
  | 1510 => 8 | 1516 => 4800 | 1517 => 960 | 1518 => 12 | 1519 => 40 | 1520 => 40 | 1521 => 40 | 1522 => 8000 | 1523 => 80 | 1524 => 8 | 1525 => 48 | 1526 => 48 | 1527 => 80000 | 1528 => 8
  | 2511 => 48 | 2512 => 48
  | _ => 200
def rtg (k : Nat) : Nat := match k with
  | 1026 => 2 | 1510 => 2 | 1516 => 2 | 1517 => 2 | 1518 => 2 | 1522 => 2 | 1523 => 2 | 1527 => 2 | 1529 => 2
  | _ => 0
theorem rln_le (k : Nat) : rln k ≤ 100000 := by
  unfold rln
  split <;> omega
theorem rtg_lt (k : Nat) : rtg k < 100 := by
  unfold rtg
  split <;> omega
/-- how many roles of a kind there are -/
def rcn (σ : Nat → Nat → Nat) (k : Nat) : Nat := match k with
  | 0 => 1 | 1 => 3 + σ 42 1 | 2 => 3 + σ 42 1 | 3 => 1 | 10 => σ 42 0 | 11 => σ 42 1 | 12 => σ 42 1 | 16 => σ 42 1 | 17 => 1 | 20 => σ 42 2 | 21 => 2 * σ 42 2 | 30 => σ 42 3 | 100 => 1
  | 1020 => σ 42 1 | 1021 => σ 42 1 | 1022 => σ 42 1 | 1023 => 2 * σ 42 2 | 1024 => σ 42 3 | 1025 => 1 | 1026 => 1
  | 2020 => σ 42 1 | 2021 => σ 42 1 | 2022 => 1
  | 1510 => 1 | 1511 => 1 | 1512 => 1 | 1513 => 1 | 1514 => 1 | 1515 => 1 | 1516 => 1 | 1517 => 1 | 1518 => 1 | 1519 => 1 | 1520 => 1 | 1521 => 1 | 1522 => 1 | 1523 => 1 | 1524 => 1 | 1525 => 1 | 1526 => 1 | 1527 => 1 | 1528 => 1 | 1529 => 1
  | 2510 => 1 | 2511 => 1 | 2512 => 1
  | _ => 0
def ru (σ : Nat → Nat → Nat) (k i : Nat) : Prop := i < rcn σ k ∧ (k = 2 → 0 < σ 40 i)
/-- what the elements of a list are -/
def rek (l : Nat) : Nat := match l with
  | 0 => 11 | 1 => 20 | 2 => 30 | _ => 10
def rop (x : Nat) (f : Nat → Nat) : Option Nat := if x = 0 then none else some (f (x - 1))
/-- the cell of a role -/
def rgo (σ : Nat → Nat → Nat) (τ : Nat → Nat → Int64) (z : Nat) (ad : Nat → Nat → Nat) (k i : Nat) (c : gE) : Prop := match k with
  | 0 => c = .inr (0, [.ref (ad 1 0), .ref (ad 1 1), .ref (ad 1 2), .ref (ad 3 0), .ref (ad 1026 0), .ref (ad 17 0), .int (nI (σ 1 0))])
  | 1 => ∃ m : Int32, c = .inr (9, [.ref (if σ 40 i = 0 then z else ad 2 i), .int (nI (σ 40 i)), .int m])
  | 2 => ∃ (n : Nat) (g : Nat → Option Nat), c = .inl (4, n, .inr (.inr (.inr (.inr g)))) ∧ σ 40 i ≤ n ∧ 10 ≤ n ∧ n ≤ 1000 ∧ ∀ j, j < σ 40 i → g j = some (ad (rek i) (σ 41 (i * 1000 + j)))
  | 3 => ∃ g : Nat → Option Nat, c = .inl (3, 128, .inr (.inr (.inr (.inr g)))) ∧ ∀ j, j < 128 → g j = rop (σ 16 j) (ad 10)
  | 10 => c = .inr (7, [.int (nI (σ 4 i)), .int (nI (σ 5 i)), .int (nI (σ 6 i)), .int (nI (σ 7 i)), .long (τ 0 i), .int (nI (σ 8 i)), va_rf (rop (σ 9 i) (ad 10))])
  | 11 => c = .inr (1, [.ref (ad 1 (3 + i)), .ref (ad 12 i), .ref (ad 16 i), .int (nI (σ 10 i))])
  | 12 => c = .inr (2, [.ref (ad 1020 i), .ref (ad 1021 i), .ref (ad 1022 i), .int (nI (σ 11 i))])
  | 16 => c = .inr (3, [.ref (ad 2020 i), .ref (ad 2021 i), .int (nI (σ 12 i))])
  | 17 => c = .inr (8, [.ref (ad 1025 0), .ref (ad 2022 0)])
  | 20 => c = .inr (4, [.ref (ad 21 (2 * i)), .ref (ad 21 (2 * i + 1)), .int (nI (σ 13 i))])
  | 21 => c = .inr (5, [.ref (ad 1023 i), .long (τ 1 i)])
  | 30 => c = .inr (6, [.int (nI (σ 14 i)), .int (nI (σ 15 i)), .ref (ad 1024 i)])
  | _ => c = .inr (10, [.int (nI (σ 500 0)), .ref (ad 1510 0), .int (nI (σ 501 0)), .ref (ad 1511 0), .ref (ad 1512 0), .ref (ad 1513 0), .ref (ad 1514 0), .ref (ad 2510 0), .ref (ad 1515 0), .int (nI (σ 502 0)), .ref (ad 1516 0), .ref (ad 1517 0), .ref (ad 1518 0), .int (nI (σ 503 0)), .ref (ad 1519 0), .ref (ad 1520 0), .ref (ad 1521 0), .ref (ad 1522 0), .ref (ad 1523 0), .ref (ad 1524 0), .ref (ad 1525 0), .ref (ad 1526 0), .ref (ad 1527 0), .ref (ad 1528 0), .ref (ad 2511 0), .ref (ad 2512 0), .ref (ad 1529 0)])
def rgd (σ : Nat → Nat → Nat) (τ : Nat → Nat → Int64) (z : Nat) (ad : Nat → Nat → Nat) (k i : Nat) (c : gE) : Prop :=
  if k < 1000 then rgo σ τ z ad k i c
  else if k < 2000 then ∃ f : Nat → Int32, c = .inl (rtg k, rln k, .inl f) ∧ ∀ j, j < rln k → f j = nI (σ (k - 1000) (i * rln k + j))
  else ∃ f : Nat → Int64, c = .inl (1, rln k, .inr (.inl f)) ∧ ∀ j, j < rln k → f j = τ (k - 2000) (i * rln k + j)
def Rep (n0 : Nat) (σ : Nat → Nat → Nat) (τ : Nat → Nat → Int64) (ad : Nat → Nat → Nat) (mm : gM) : Prop :=
  (∀ k i, ru σ k i → ∃ c, mm.1 (ad k i) = some c ∧ rgd σ τ (mm.2.2.2.1 0) ad k i c) ∧
  (∀ k i k' i', ru σ k i → ru σ k' i' → ad k i = ad k' i' → k = k' ∧ i = i') ∧
  (∀ k i, ru σ k i → n0 ≤ ad k i ∧ ad k i < mm.2.1) ∧ (∀ q, mm.2.1 ≤ q → mm.1 q = none) ∧ (∀ q, q < n0 → mm.1 q = none) ∧ mm.2.2.2.1 0 < n0 ∧ mm.2.2.2.1 2 < n0
theorem Rep.ne {n0 : Nat} {σ : Nat → Nat → Nat} {τ : Nat → Nat → Int64} {ad : Nat → Nat → Nat} {mm : gM} (h : Rep n0 σ τ ad mm) {k i k' i' : Nat} (hu : ru σ k i) (hu' : ru σ k' i') (hne : k ≠ k' ∨ i ≠ i') : ad k i ≠ ad k' i' := by
  intro e
  obtain ⟨a, b⟩ := h.2.1 k i k' i' hu hu' e
  rcases hne with z | z
  · exact z a
  · exact z b
/-- one cell is written -/
theorem Rep.write {n0 : Nat} {σ σ' : Nat → Nat → Nat} {τ τ' : Nat → Nat → Int64} {ad : Nat → Nat → Nat} {mm : gM} {k0 i0 : Nat} {c0 : gE} (h : Rep n0 σ τ ad mm) (hu : ru σ k0 i0) (hr : ∀ k i, ru σ' k i → ru σ k i) (hg0 : rgd σ' τ' (mm.2.2.2.1 0) ad k0 i0 c0)
    (hg : ∀ k i c, ru σ k i → (k ≠ k0 ∨ i ≠ i0) → rgd σ τ (mm.2.2.2.1 0) ad k i c → rgd σ' τ' (mm.2.2.2.1 0) ad k i c) : Rep n0 σ' τ' ad (gU mm (ad k0 i0) c0) := by
  obtain ⟨h1, h2, h3, h4, h5, h6⟩ := h
  refine ⟨fun k i hu' => ?_, fun k i k' i' ha hb => h2 k i k' i' (hr _ _ ha) (hr _ _ hb), fun k i ha => h3 k i (hr _ _ ha), fun q hq => ?_, fun q hq => ?_, h6⟩
  · by_cases hc : k = k0 ∧ i = i0
    · obtain ⟨rfl, rfl⟩ := hc
      exact ⟨c0, gU_s _ _ _, hg0⟩
    · have hne : k ≠ k0 ∨ i ≠ i0 := by
        by_cases z : k = k0
        · exact Or.inr (fun w => hc ⟨z, w⟩)
        · exact Or.inl z
      obtain ⟨c, hc1, hc2⟩ := h1 k i (hr _ _ hu')
      refine ⟨c, ?_, hg k i c (hr _ _ hu') hne hc2⟩
      rw [gU_n (fun e => hc (h2 k i k0 i0 (hr _ _ hu') hu e))]
      exact hc1
  · have hl := (h3 k0 i0 hu).2
    have hq' : mm.2.1 ≤ q := hq
    rw [gU_n (by omega)]
    exact h4 q hq'
  · have hl := (h3 k0 i0 hu).1
    rw [gU_n (by omega)]
    exact h5 q hq
/-- fields of arrays -/
def rar (f : Nat) : Prop := (20 ≤ f ∧ f ≤ 26) ∨ (510 ≤ f ∧ f ≤ 529)
theorem ru_ar {σ : Nat → Nat → Nat} {k i : Nat} (h1 : 1000 ≤ k) (h2 : k < 2000) (hu : ru σ k i) : rar (k - 1000) := by
  obtain ⟨hc, -⟩ := hu
  unfold rcn at hc
  unfold rar
  split at hc <;> first | omega | (exact absurd hc (Nat.not_lt_zero _))
theorem ru_al {σ : Nat → Nat → Nat} {k i : Nat} (h1 : 2000 ≤ k) (hu : ru σ k i) : (20 ≤ k - 2000 ∧ k - 2000 ≤ 22) ∨ (510 ≤ k - 2000 ∧ k - 2000 ≤ 512) := by
  obtain ⟨hc, -⟩ := hu
  unfold rcn at hc
  split at hc <;> first | omega | (exact absurd hc (Nat.not_lt_zero _))
/-- the roles in use are told by these alone -/
theorem ru_of {σ σ' : Nat → Nat → Nat} (h1 : ∀ i, σ' 42 i = σ 42 i) (h2 : ∀ i, σ' 40 i = σ 40 i) {k i : Nat} (hu : ru σ' k i) : ru σ k i := by
  have e : rcn σ' k = rcn σ k := by
    unfold rcn
    simp only [h1]
  unfold ru at hu ⊢
  rw [e, h2] at hu
  exact hu
