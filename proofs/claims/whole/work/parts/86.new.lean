section NW
variable {n0 : Nat} {σ σ' : Nat → Nat → Nat} {τ τ' : Nat → Nat → Int64} {ad ad' : Nat → Nat → Nat} {mm mm' : gM}
theorem Teller_init_eq {q : Nat} {w0 w1 w2 w3 : Value} (hb : mm.1 q = some (.inr (1, [w0, w1, w2, w3]))) (hq : q < mm.2.1) : ∃ mm' : gM, F_Teller_init q mm = some ((), mm') ∧ mm'.2.1 = mm.2.1 + 8 ∧ mm'.2.2.1 = mm.2.2.1 + 40 ∧ mm'.2.2.2 = mm.2.2.2 ∧ mm'.1 q = some (.inr (1, [.ref mm.2.1, .ref (mm.2.1 + 1), .ref (mm.2.1 + 5), .int 0])) ∧ mm'.1 mm.2.1 = some (.inr (9, [.ref (mm.2.2.2.1 0), .int 0, .int 0])) ∧ mm'.1 (mm.2.1 + 1) = some (.inr (2, [.ref (mm.2.1 + 2), .ref (mm.2.1 + 3), .ref (mm.2.1 + 4), .int 0])) ∧ mm'.1 (mm.2.1 + 2) = some (.inl (0, 6, .inl (fun _ => 0))) ∧ mm'.1 (mm.2.1 + 3) = some (.inl (0, 6, .inl (fun _ => 0))) ∧ mm'.1 (mm.2.1 + 4) = some (.inl (0, 6, .inl (fun _ => 0))) ∧ mm'.1 (mm.2.1 + 5) = some (.inr (3, [.ref (mm.2.1 + 6), .ref (mm.2.1 + 7), .int 0])) ∧ mm'.1 (mm.2.1 + 6) = some (.inl (1, 6, .inr (.inl (fun _ => 0)))) ∧ mm'.1 (mm.2.1 + 7) = some (.inl (1, 6, .inr (.inl (fun _ => 0)))) ∧ (∀ x, x ≠ q → x < mm.2.1 ∨ mm.2.1 + 8 ≤ x → mm'.1 x = mm.1 x) := by
  have h1 : ∀ d, q ≠ mm.2.1 + d := fun d => by omega
  have h2 : q ≠ mm.2.1 := by omega
  have h3 : ∀ d, mm.2.1 + d ≠ q := fun d => by omega
  have h4 : mm.2.1 ≠ q := by omega
  have c6 : (6 : Int32).toNatClampNeg = 6 := rfl
  have l6 : ¬ (6 : Int32) < 0 := by decide
  simp [F_Teller_init, F_AL_init, F_AbstractList_init, F_AbstractCollection_init, F_Blocks_init, F_Clock_init, gnO, gnI, gnL, gpV, gN, gU, hb, gb1, gb2, h1, h2, h3, h4, Nat.add_assoc, va_rf]
  intro x hxq hx
  simp [hxq, show x ≠ mm.2.1 by omega, show x ≠ mm.2.1 + 1 by omega, show x ≠ mm.2.1 + 2 by omega, show x ≠ mm.2.1 + 3 by omega, show x ≠ mm.2.1 + 4 by omega, show x ≠ mm.2.1 + 5 by omega, show x ≠ mm.2.1 + 6 by omega, show x ≠ mm.2.1 + 7 by omega]
theorem ShipSet_init_eq {q : Nat} {w0 w1 w2 : Value} (hb : mm.1 q = some (.inr (4, [w0, w1, w2]))) (hq : q < mm.2.1) : ∃ mm' : gM, F_ShipSet_init q mm = some ((), mm') ∧ mm'.2.1 = mm.2.1 + 4 ∧ mm'.2.2.1 = mm.2.2.1 + 20 ∧ mm'.2.2.2 = mm.2.2.2 ∧ mm'.1 q = some (.inr (4, [.ref mm.2.1, .ref (mm.2.1 + 2), .int 0])) ∧ mm'.1 mm.2.1 = some (.inr (5, [.ref (mm.2.1 + 1), .long 0])) ∧ mm'.1 (mm.2.1 + 1) = some (.inl (0, 8, .inl (fun _ => 0))) ∧ mm'.1 (mm.2.1 + 2) = some (.inr (5, [.ref (mm.2.1 + 3), .long 0])) ∧ mm'.1 (mm.2.1 + 3) = some (.inl (0, 8, .inl (fun _ => 0))) ∧ (∀ x, x ≠ q → x < mm.2.1 ∨ mm.2.1 + 4 ≤ x → mm'.1 x = mm.1 x) := by
  have h1 : ∀ d, q ≠ mm.2.1 + d := fun d => by omega
  have h2 : q ≠ mm.2.1 := by omega
  have h3 : ∀ d, mm.2.1 + d ≠ q := fun d => by omega
  have h4 : mm.2.1 ≠ q := by omega
  simp [F_ShipSet_init, F_Holding_init, gnO, gnI, gnL, gpV, gN, gU, hb, gb1, gb2, h1, h2, h3, h4, Nat.add_assoc, va_rf]
  intro x hxq hx
  simp [hxq, show x ≠ mm.2.1 by omega, show x ≠ mm.2.1 + 1 by omega, show x ≠ mm.2.1 + 2 by omega, show x ≠ mm.2.1 + 3 by omega]
theorem Telling_init_eq {q : Nat} {w0 w1 w2 w3 w4 w5 w6 : Value} (a0 a1 a2 a3 : Int32) (a4 : Int64) (a5 : Int32) (a6 : Option Nat) (hb : mm.1 q = some (.inr (7, [w0, w1, w2, w3, w4, w5, w6]))) : ∃ mm' : gM, F_Telling_init q a0 a1 a2 a3 a4 a5 a6 mm = some ((), mm') ∧ mm'.2 = mm.2 ∧ mm'.1 q = some (.inr (7, [.int a0, .int a1, .int a2, .int a3, .long a4, .int a5, va_rf a6])) ∧ (∀ x, x ≠ q → mm'.1 x = mm.1 x) := by
  simp [F_Telling_init, gpV, gU, hb, gb1]
  intro x hx
  simp [hx]
theorem Settling_init_eq {q b n : Nat} {w0 w1 w2 w3 w4 : Value} {g : Nat → Int32} (a0 a1 : Int32) (hb : mm.1 q = some (.inr (6, [w0, w1, w2]))) (hc : mm.1 b = some (.inr (8, [.ref n, w4]))) (hn : mm.1 n = some (.inl (0, 8, .inl g))) (hq : q < mm.2.1) (hbl : b < mm.2.1) (hnl : n < mm.2.1) : ∃ mm' : gM, F_Settling_init q a0 a1 (some b) mm = some ((), mm') ∧ mm'.2.1 = mm.2.1 + 1 ∧ mm'.2.2.1 = mm.2.2.1 + 8 ∧ mm'.2.2.2 = mm.2.2.2 ∧ mm'.1 q = some (.inr (6, [.int a0, .int a1, .ref mm.2.1])) ∧ mm'.1 mm.2.1 = some (.inl (0, 8, .inl g)) ∧ (∀ x, x ≠ q → x ≠ mm.2.1 → mm'.1 x = mm.1 x) := by
  have qb : b ≠ q := fun e => by rw [e, hb] at hc; cases hc
  have qn : n ≠ q := fun e => by rw [e, hb] at hn; cases hn
  have h2 : q ≠ mm.2.1 := by omega
  have h4 : mm.2.1 ≠ q := by omega
  have c8 : nI 8 = (8 : Int32) := rfl
  simp [F_Settling_init, F_Arrays_copyOf3, gclI, gcsA, glen, gar, gfR, gfV, gpV, gU, gN, hb, hc, hn, gb1, gb2, qb, qn, h2, h4, va_rf, c8]
  intro x h5 h6
  simp [h5, h6]
end NW
