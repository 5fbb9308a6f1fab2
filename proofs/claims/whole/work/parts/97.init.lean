/-! the start (written by wip/whole/mkinit.py) -/
section IT
variable {mm : gM}
theorem S_init_eq {q : Nat} {w0 w1 w2 w3 w4 w5 w6 : Value} (hb : mm.1 q = some (.inr (0, [w0, w1, w2, w3, w4, w5, w6]))) (hq : q < mm.2.1) : ∃ mm' : gM, F_S_init q mm = some ((), mm') ∧ mm'.2.1 = mm.2.1 + 8 ∧ mm'.2.2.1 = mm.2.2.1 + 235 ∧ mm'.2.2.2 = mm.2.2.2 ∧ mm'.1 q = some (.inr (0, [.ref mm.2.1, .ref (mm.2.1 + 1), .ref (mm.2.1 + 2), .ref (mm.2.1 + 3), .ref (mm.2.1 + 4), .ref (mm.2.1 + 5), .int 0])) ∧ mm'.1 mm.2.1 = some (.inr (9, [.ref (mm.2.2.2.1 0), .int 0, .int 0])) ∧ mm'.1 (mm.2.1 + 1) = some (.inr (9, [.ref (mm.2.2.2.1 0), .int 0, .int 0])) ∧ mm'.1 (mm.2.1 + 2) = some (.inr (9, [.ref (mm.2.2.2.1 0), .int 0, .int 0])) ∧ mm'.1 (mm.2.1 + 3) = some (.inl (3, 128, .inr (.inr (.inr (.inr (fun _ => none)))))) ∧ mm'.1 (mm.2.1 + 4) = some (.inl (2, 80, .inl (fun _ => 0))) ∧ mm'.1 (mm.2.1 + 5) = some (.inr (8, [.ref (mm.2.1 + 6), .ref (mm.2.1 + 7)])) ∧ mm'.1 (mm.2.1 + 6) = some (.inl (0, 8, .inl (fun _ => 0))) ∧ mm'.1 (mm.2.1 + 7) = some (.inl (1, 8, .inr (.inl (fun _ => 0)))) ∧ (∀ x, x ≠ q → x < mm.2.1 ∨ mm.2.1 + 8 ≤ x → mm'.1 x = mm.1 x) := by
  have h1 : ∀ d, q ≠ mm.2.1 + d := fun d => by omega
  have h2 : q ≠ mm.2.1 := by omega
  have h3 : ∀ d, mm.2.1 + d ≠ q := fun d => by omega
  have h4 : mm.2.1 ≠ q := by omega
  simp [F_S_init, F_AL_init, F_AbstractList_init, F_AbstractCollection_init, F_Current_init, gnO, gnI, gnL, gnR, gpV, gN, gU, hb, gb1, gb2, h1, h2, h3, h4, Nat.add_assoc, va_rf]
  intro x hxq hx
  simp [hxq, show x ≠ mm.2.1 by omega, show x ≠ (mm.2.1 + 1) by omega, show x ≠ (mm.2.1 + 2) by omega, show x ≠ (mm.2.1 + 3) by omega, show x ≠ (mm.2.1 + 4) by omega, show x ≠ (mm.2.1 + 5) by omega, show x ≠ (mm.2.1 + 6) by omega, show x ≠ (mm.2.1 + 7) by omega]
def inQ (base : gM) (q p d N : Nat) (fs : List Value) (cs : Nat → gE) (mm : gM) : Prop := mm.2.1 = p + d ∧ mm.2.2.1 = N ∧ mm.2.2.2 = base.2.2.2 ∧ mm.1 q = some (.inr (10, fs)) ∧ (∀ e, e < d → mm.1 (p + e) = some (cs e)) ∧ (∀ x, x ≠ q → x < p ∨ p + d ≤ x → mm.1 x = base.1 x)
theorem inQ.next {base : gM} {q p d N n : Nat} {fs fs' : List Value} {cs : Nat → gE} {mm mm' : gM} {c : gE} (h : inQ base q p d N fs cs mm) (hq : q < p) (hc : cs d = c) (n1 : mm'.2.1 = mm.2.1 + 1) (n2 : mm'.2.2.1 = mm.2.2.1 + n) (n3 : mm'.2.2.2 = mm.2.2.2) (n4 : mm'.1 q = some (.inr (10, fs'))) (n5 : mm'.1 mm.2.1 = some c) (n6 : ∀ x, x ≠ q → x ≠ mm.2.1 → mm'.1 x = mm.1 x) : inQ base q p (d + 1) (N + n) fs' cs mm' := by
  obtain ⟨a1, a2, a3, a4, a5, a6⟩ := h
  refine ⟨by omega, by omega, by rw [n3, a3], n4, fun e he => ?_, fun x x1 x2 => ?_⟩
  · by_cases z : e = d
    · rw [z, ← a1, n5, hc]
    · rw [n6 _ (by omega) (by omega)]
      exact a5 e (by omega)
  · rw [n6 x x1 (by omega)]
    exact a6 x x1 (by omega)
theorem mi_I {base : gM} {α : Type} {q p d N k n : Nat} {fs fs' : List Value} {cs : Nat → gE} (t : Nat) (hn : n ≤ 100000) (K : gM → Option α) (hQ : inQ base q p d N fs cs mm) (hq : q < p) (hk : k < fs.length) (hs : fs.set k (.ref (p + d)) = fs') (hc : cs d = .inl (t, n, .inl (fun _ => 0))) : ∃ mm' : gM, (gb2 (gnI t (nI n) mm) fun v mm3 => gb1 (gpV 10 k (some q) (va_rf v) mm3) K) = K mm' ∧ inQ base q p (d + 1) (N + n) fs' cs mm' := by
  have a1 := hQ.1
  have hb := hQ.2.2.2.1
  rw [gnI_eq t hn, gb2_some, gpV_eq (by rw [gN_n (by omega)]; exact hb) hk, gb1_some]
  exact ⟨_, rfl, hQ.next hq hc rfl rfl rfl (by rw [gU_s, ← hs, ← a1]; rfl) (by rw [gU_n (by omega), gN_s]) (fun x h1 h2 => by rw [gU_n h1, gN_n h2])⟩
theorem mi_L {base : gM} {α : Type} {q p d N k n : Nat} {fs fs' : List Value} {cs : Nat → gE} (t : Nat) (hn : n ≤ 100000) (K : gM → Option α) (hQ : inQ base q p d N fs cs mm) (hq : q < p) (hk : k < fs.length) (hs : fs.set k (.ref (p + d)) = fs') (hc : cs d = .inl (t, n, .inr (.inl (fun _ => 0)))) : ∃ mm' : gM, (gb2 (gnL t (nI n) mm) fun v mm3 => gb1 (gpV 10 k (some q) (va_rf v) mm3) K) = K mm' ∧ inQ base q p (d + 1) (N + n) fs' cs mm' := by
  have a1 := hQ.1
  have hb := hQ.2.2.2.1
  rw [gnL_eq t hn, gb2_some, gpV_eq (by rw [gN_n (by omega)]; exact hb) hk, gb1_some]
  exact ⟨_, rfl, hQ.next hq hc rfl rfl rfl (by rw [gU_s, ← hs, ← a1]; rfl) (by rw [gU_n (by omega), gN_s]) (fun x h1 h2 => by rw [gU_n h1, gN_n h2])⟩
def cM (d : Nat) : gE := match d with
  | 0 => .inl (2, 8, .inl (fun _ => 0))
  | 1 => .inl (0, 200, .inl (fun _ => 0))
  | 2 => .inl (0, 200, .inl (fun _ => 0))
  | 3 => .inl (0, 200, .inl (fun _ => 0))
  | 4 => .inl (0, 200, .inl (fun _ => 0))
  | 5 => .inl (1, 200, .inr (.inl (fun _ => 0)))
  | 6 => .inl (0, 200, .inl (fun _ => 0))
  | 7 => .inl (2, 4800, .inl (fun _ => 0))
  | 8 => .inl (2, 960, .inl (fun _ => 0))
  | 9 => .inl (2, 12, .inl (fun _ => 0))
  | 10 => .inl (0, 40, .inl (fun _ => 0))
  | 11 => .inl (0, 40, .inl (fun _ => 0))
  | 12 => .inl (0, 40, .inl (fun _ => 0))
  | 13 => .inl (2, 8000, .inl (fun _ => 0))
  | 14 => .inl (2, 80, .inl (fun _ => 0))
  | 15 => .inl (0, 8, .inl (fun _ => 0))
  | 16 => .inl (0, 48, .inl (fun _ => 0))
  | 17 => .inl (0, 48, .inl (fun _ => 0))
  | 18 => .inl (2, 80000, .inl (fun _ => 0))
  | 19 => .inl (0, 8, .inl (fun _ => 0))
  | 20 => .inl (1, 48, .inr (.inl (fun _ => 0)))
  | 21 => .inl (1, 48, .inr (.inl (fun _ => 0)))
  | 22 => .inl (2, 200, .inl (fun _ => 0))
  | _ => .inr (0, [])
def KK22 (q : Nat) (mm : gM) : Option (Unit × gM) := some ((), mm)
def KK21 (q : Nat) (mm : gM) : Option (Unit × gM) := gb2 (gnI 2 (nI 200) mm) fun v mm3 => gb1 (gpV 10 26 (some q) (va_rf v) mm3) (KK22 q)
def KK20 (q : Nat) (mm : gM) : Option (Unit × gM) := gb2 (gnL 1 (nI 48) mm) fun v mm3 => gb1 (gpV 10 25 (some q) (va_rf v) mm3) (KK21 q)
def KK19 (q : Nat) (mm : gM) : Option (Unit × gM) := gb2 (gnL 1 (nI 48) mm) fun v mm3 => gb1 (gpV 10 24 (some q) (va_rf v) mm3) (KK20 q)
def KK18 (q : Nat) (mm : gM) : Option (Unit × gM) := gb2 (gnI 0 (nI 8) mm) fun v mm3 => gb1 (gpV 10 23 (some q) (va_rf v) mm3) (KK19 q)
def KK17 (q : Nat) (mm : gM) : Option (Unit × gM) := gb2 (gnI 2 (nI 80000) mm) fun v mm3 => gb1 (gpV 10 22 (some q) (va_rf v) mm3) (KK18 q)
def KK16 (q : Nat) (mm : gM) : Option (Unit × gM) := gb2 (gnI 0 (nI 48) mm) fun v mm3 => gb1 (gpV 10 21 (some q) (va_rf v) mm3) (KK17 q)
def KK15 (q : Nat) (mm : gM) : Option (Unit × gM) := gb2 (gnI 0 (nI 48) mm) fun v mm3 => gb1 (gpV 10 20 (some q) (va_rf v) mm3) (KK16 q)
def KK14 (q : Nat) (mm : gM) : Option (Unit × gM) := gb2 (gnI 0 (nI 8) mm) fun v mm3 => gb1 (gpV 10 19 (some q) (va_rf v) mm3) (KK15 q)
def KK13 (q : Nat) (mm : gM) : Option (Unit × gM) := gb2 (gnI 2 (nI 80) mm) fun v mm3 => gb1 (gpV 10 18 (some q) (va_rf v) mm3) (KK14 q)
def KK12 (q : Nat) (mm : gM) : Option (Unit × gM) := gb2 (gnI 2 (nI 8000) mm) fun v mm3 => gb1 (gpV 10 17 (some q) (va_rf v) mm3) (KK13 q)
def KK11 (q : Nat) (mm : gM) : Option (Unit × gM) := gb2 (gnI 0 (nI 40) mm) fun v mm3 => gb1 (gpV 10 16 (some q) (va_rf v) mm3) (KK12 q)
def KK10 (q : Nat) (mm : gM) : Option (Unit × gM) := gb2 (gnI 0 (nI 40) mm) fun v mm3 => gb1 (gpV 10 15 (some q) (va_rf v) mm3) (KK11 q)
def KK9 (q : Nat) (mm : gM) : Option (Unit × gM) := gb2 (gnI 0 (nI 40) mm) fun v mm3 => gb1 (gpV 10 14 (some q) (va_rf v) mm3) (KK10 q)
def KK8 (q : Nat) (mm : gM) : Option (Unit × gM) := gb2 (gnI 2 (nI 12) mm) fun v mm3 => gb1 (gpV 10 12 (some q) (va_rf v) mm3) (KK9 q)
def KK7 (q : Nat) (mm : gM) : Option (Unit × gM) := gb2 (gnI 2 (nI 960) mm) fun v mm3 => gb1 (gpV 10 11 (some q) (va_rf v) mm3) (KK8 q)
def KK6 (q : Nat) (mm : gM) : Option (Unit × gM) := gb2 (gnI 2 (nI 4800) mm) fun v mm3 => gb1 (gpV 10 10 (some q) (va_rf v) mm3) (KK7 q)
def KK5 (q : Nat) (mm : gM) : Option (Unit × gM) := gb2 (gnI 0 (nI 200) mm) fun v mm3 => gb1 (gpV 10 8 (some q) (va_rf v) mm3) (KK6 q)
def KK4 (q : Nat) (mm : gM) : Option (Unit × gM) := gb2 (gnL 1 (nI 200) mm) fun v mm3 => gb1 (gpV 10 7 (some q) (va_rf v) mm3) (KK5 q)
def KK3 (q : Nat) (mm : gM) : Option (Unit × gM) := gb2 (gnI 0 (nI 200) mm) fun v mm3 => gb1 (gpV 10 6 (some q) (va_rf v) mm3) (KK4 q)
def KK2 (q : Nat) (mm : gM) : Option (Unit × gM) := gb2 (gnI 0 (nI 200) mm) fun v mm3 => gb1 (gpV 10 5 (some q) (va_rf v) mm3) (KK3 q)
def KK1 (q : Nat) (mm : gM) : Option (Unit × gM) := gb2 (gnI 0 (nI 200) mm) fun v mm3 => gb1 (gpV 10 4 (some q) (va_rf v) mm3) (KK2 q)
def KK0 (q : Nat) (mm : gM) : Option (Unit × gM) := gb2 (gnI 0 (nI 200) mm) fun v mm3 => gb1 (gpV 10 3 (some q) (va_rf v) mm3) (KK1 q)
theorem M_init_KK (q : Nat) : F_M_init q mm = (gb2 (gnI 2 (nI 8) mm) fun v mm3 => gb1 (gpV 10 1 (some q) (va_rf v) mm3) (KK0 q)) := rfl
theorem M_init_eq {q p : Nat} (hp : mm.2.1 = p) (hb : mm.1 q = some (.inr (10, [.int 0, .null, .int 0, .null, .null, .null, .null, .null, .null, .int 0, .null, .null, .null, .int 0, .null, .null, .null, .null, .null, .null, .null, .null, .null, .null, .null, .null, .null]))) (hq : q < p) : ∃ mm' : gM, F_M_init q mm = some ((), mm') ∧ inQ mm q p 23 (mm.2.2.1 + 95588) [.int 0, .ref (p + 0), .int 0, .ref (p + 1), .ref (p + 2), .ref (p + 3), .ref (p + 4), .ref (p + 5), .ref (p + 6), .int 0, .ref (p + 7), .ref (p + 8), .ref (p + 9), .int 0, .ref (p + 10), .ref (p + 11), .ref (p + 12), .ref (p + 13), .ref (p + 14), .ref (p + 15), .ref (p + 16), .ref (p + 17), .ref (p + 18), .ref (p + 19), .ref (p + 20), .ref (p + 21), .ref (p + 22)] cM mm' := by
  have Q0 : inQ mm q p 0 (mm.2.2.1 + 0) [.int 0, .null, .int 0, .null, .null, .null, .null, .null, .null, .int 0, .null, .null, .null, .int 0, .null, .null, .null, .null, .null, .null, .null, .null, .null, .null, .null, .null, .null] cM mm := ⟨hp, rfl, rfl, hb, fun e he => absurd he (Nat.not_lt_zero _), fun _ _ _ => rfl⟩
  obtain ⟨m0, e0, Q1⟩ := mi_I (α := Unit × gM) (k := 1) (n := 8) (fs' := [.int 0, .ref (p + 0), .int 0, .null, .null, .null, .null, .null, .null, .int 0, .null, .null, .null, .int 0, .null, .null, .null, .null, .null, .null, .null, .null, .null, .null, .null, .null, .null]) 2 (Nat.le_of_ble_eq_true rfl) (KK0 q) Q0 hq (Nat.le_of_ble_eq_true rfl) rfl rfl
  obtain ⟨m1, e1, Q2⟩ := mi_I (α := Unit × gM) (k := 3) (n := 200) (fs' := [.int 0, .ref (p + 0), .int 0, .ref (p + 1), .null, .null, .null, .null, .null, .int 0, .null, .null, .null, .int 0, .null, .null, .null, .null, .null, .null, .null, .null, .null, .null, .null, .null, .null]) 0 (Nat.le_of_ble_eq_true rfl) (KK1 q) Q1 hq (Nat.le_of_ble_eq_true rfl) rfl rfl
  clear Q1
  obtain ⟨m2, e2, Q3⟩ := mi_I (α := Unit × gM) (k := 4) (n := 200) (fs' := [.int 0, .ref (p + 0), .int 0, .ref (p + 1), .ref (p + 2), .null, .null, .null, .null, .int 0, .null, .null, .null, .int 0, .null, .null, .null, .null, .null, .null, .null, .null, .null, .null, .null, .null, .null]) 0 (Nat.le_of_ble_eq_true rfl) (KK2 q) Q2 hq (Nat.le_of_ble_eq_true rfl) rfl rfl
  clear Q2
  obtain ⟨m3, e3, Q4⟩ := mi_I (α := Unit × gM) (k := 5) (n := 200) (fs' := [.int 0, .ref (p + 0), .int 0, .ref (p + 1), .ref (p + 2), .ref (p + 3), .null, .null, .null, .int 0, .null, .null, .null, .int 0, .null, .null, .null, .null, .null, .null, .null, .null, .null, .null, .null, .null, .null]) 0 (Nat.le_of_ble_eq_true rfl) (KK3 q) Q3 hq (Nat.le_of_ble_eq_true rfl) rfl rfl
  clear Q3
  obtain ⟨m4, e4, Q5⟩ := mi_I (α := Unit × gM) (k := 6) (n := 200) (fs' := [.int 0, .ref (p + 0), .int 0, .ref (p + 1), .ref (p + 2), .ref (p + 3), .ref (p + 4), .null, .null, .int 0, .null, .null, .null, .int 0, .null, .null, .null, .null, .null, .null, .null, .null, .null, .null, .null, .null, .null]) 0 (Nat.le_of_ble_eq_true rfl) (KK4 q) Q4 hq (Nat.le_of_ble_eq_true rfl) rfl rfl
  clear Q4
  obtain ⟨m5, e5, Q6⟩ := mi_L (α := Unit × gM) (k := 7) (n := 200) (fs' := [.int 0, .ref (p + 0), .int 0, .ref (p + 1), .ref (p + 2), .ref (p + 3), .ref (p + 4), .ref (p + 5), .null, .int 0, .null, .null, .null, .int 0, .null, .null, .null, .null, .null, .null, .null, .null, .null, .null, .null, .null, .null]) 1 (Nat.le_of_ble_eq_true rfl) (KK5 q) Q5 hq (Nat.le_of_ble_eq_true rfl) rfl rfl
  clear Q5
  obtain ⟨m6, e6, Q7⟩ := mi_I (α := Unit × gM) (k := 8) (n := 200) (fs' := [.int 0, .ref (p + 0), .int 0, .ref (p + 1), .ref (p + 2), .ref (p + 3), .ref (p + 4), .ref (p + 5), .ref (p + 6), .int 0, .null, .null, .null, .int 0, .null, .null, .null, .null, .null, .null, .null, .null, .null, .null, .null, .null, .null]) 0 (Nat.le_of_ble_eq_true rfl) (KK6 q) Q6 hq (Nat.le_of_ble_eq_true rfl) rfl rfl
  clear Q6
  obtain ⟨m7, e7, Q8⟩ := mi_I (α := Unit × gM) (k := 10) (n := 4800) (fs' := [.int 0, .ref (p + 0), .int 0, .ref (p + 1), .ref (p + 2), .ref (p + 3), .ref (p + 4), .ref (p + 5), .ref (p + 6), .int 0, .ref (p + 7), .null, .null, .int 0, .null, .null, .null, .null, .null, .null, .null, .null, .null, .null, .null, .null, .null]) 2 (Nat.le_of_ble_eq_true rfl) (KK7 q) Q7 hq (Nat.le_of_ble_eq_true rfl) rfl rfl
  clear Q7
  obtain ⟨m8, e8, Q9⟩ := mi_I (α := Unit × gM) (k := 11) (n := 960) (fs' := [.int 0, .ref (p + 0), .int 0, .ref (p + 1), .ref (p + 2), .ref (p + 3), .ref (p + 4), .ref (p + 5), .ref (p + 6), .int 0, .ref (p + 7), .ref (p + 8), .null, .int 0, .null, .null, .null, .null, .null, .null, .null, .null, .null, .null, .null, .null, .null]) 2 (Nat.le_of_ble_eq_true rfl) (KK8 q) Q8 hq (Nat.le_of_ble_eq_true rfl) rfl rfl
  clear Q8
  obtain ⟨m9, e9, Q10⟩ := mi_I (α := Unit × gM) (k := 12) (n := 12) (fs' := [.int 0, .ref (p + 0), .int 0, .ref (p + 1), .ref (p + 2), .ref (p + 3), .ref (p + 4), .ref (p + 5), .ref (p + 6), .int 0, .ref (p + 7), .ref (p + 8), .ref (p + 9), .int 0, .null, .null, .null, .null, .null, .null, .null, .null, .null, .null, .null, .null, .null]) 2 (Nat.le_of_ble_eq_true rfl) (KK9 q) Q9 hq (Nat.le_of_ble_eq_true rfl) rfl rfl
  clear Q9
  obtain ⟨m10, e10, Q11⟩ := mi_I (α := Unit × gM) (k := 14) (n := 40) (fs' := [.int 0, .ref (p + 0), .int 0, .ref (p + 1), .ref (p + 2), .ref (p + 3), .ref (p + 4), .ref (p + 5), .ref (p + 6), .int 0, .ref (p + 7), .ref (p + 8), .ref (p + 9), .int 0, .ref (p + 10), .null, .null, .null, .null, .null, .null, .null, .null, .null, .null, .null, .null]) 0 (Nat.le_of_ble_eq_true rfl) (KK10 q) Q10 hq (Nat.le_of_ble_eq_true rfl) rfl rfl
  clear Q10
  obtain ⟨m11, e11, Q12⟩ := mi_I (α := Unit × gM) (k := 15) (n := 40) (fs' := [.int 0, .ref (p + 0), .int 0, .ref (p + 1), .ref (p + 2), .ref (p + 3), .ref (p + 4), .ref (p + 5), .ref (p + 6), .int 0, .ref (p + 7), .ref (p + 8), .ref (p + 9), .int 0, .ref (p + 10), .ref (p + 11), .null, .null, .null, .null, .null, .null, .null, .null, .null, .null, .null]) 0 (Nat.le_of_ble_eq_true rfl) (KK11 q) Q11 hq (Nat.le_of_ble_eq_true rfl) rfl rfl
  clear Q11
  obtain ⟨m12, e12, Q13⟩ := mi_I (α := Unit × gM) (k := 16) (n := 40) (fs' := [.int 0, .ref (p + 0), .int 0, .ref (p + 1), .ref (p + 2), .ref (p + 3), .ref (p + 4), .ref (p + 5), .ref (p + 6), .int 0, .ref (p + 7), .ref (p + 8), .ref (p + 9), .int 0, .ref (p + 10), .ref (p + 11), .ref (p + 12), .null, .null, .null, .null, .null, .null, .null, .null, .null, .null]) 0 (Nat.le_of_ble_eq_true rfl) (KK12 q) Q12 hq (Nat.le_of_ble_eq_true rfl) rfl rfl
  clear Q12
  obtain ⟨m13, e13, Q14⟩ := mi_I (α := Unit × gM) (k := 17) (n := 8000) (fs' := [.int 0, .ref (p + 0), .int 0, .ref (p + 1), .ref (p + 2), .ref (p + 3), .ref (p + 4), .ref (p + 5), .ref (p + 6), .int 0, .ref (p + 7), .ref (p + 8), .ref (p + 9), .int 0, .ref (p + 10), .ref (p + 11), .ref (p + 12), .ref (p + 13), .null, .null, .null, .null, .null, .null, .null, .null, .null]) 2 (Nat.le_of_ble_eq_true rfl) (KK13 q) Q13 hq (Nat.le_of_ble_eq_true rfl) rfl rfl
  clear Q13
  obtain ⟨m14, e14, Q15⟩ := mi_I (α := Unit × gM) (k := 18) (n := 80) (fs' := [.int 0, .ref (p + 0), .int 0, .ref (p + 1), .ref (p + 2), .ref (p + 3), .ref (p + 4), .ref (p + 5), .ref (p + 6), .int 0, .ref (p + 7), .ref (p + 8), .ref (p + 9), .int 0, .ref (p + 10), .ref (p + 11), .ref (p + 12), .ref (p + 13), .ref (p + 14), .null, .null, .null, .null, .null, .null, .null, .null]) 2 (Nat.le_of_ble_eq_true rfl) (KK14 q) Q14 hq (Nat.le_of_ble_eq_true rfl) rfl rfl
  clear Q14
  obtain ⟨m15, e15, Q16⟩ := mi_I (α := Unit × gM) (k := 19) (n := 8) (fs' := [.int 0, .ref (p + 0), .int 0, .ref (p + 1), .ref (p + 2), .ref (p + 3), .ref (p + 4), .ref (p + 5), .ref (p + 6), .int 0, .ref (p + 7), .ref (p + 8), .ref (p + 9), .int 0, .ref (p + 10), .ref (p + 11), .ref (p + 12), .ref (p + 13), .ref (p + 14), .ref (p + 15), .null, .null, .null, .null, .null, .null, .null]) 0 (Nat.le_of_ble_eq_true rfl) (KK15 q) Q15 hq (Nat.le_of_ble_eq_true rfl) rfl rfl
  clear Q15
  obtain ⟨m16, e16, Q17⟩ := mi_I (α := Unit × gM) (k := 20) (n := 48) (fs' := [.int 0, .ref (p + 0), .int 0, .ref (p + 1), .ref (p + 2), .ref (p + 3), .ref (p + 4), .ref (p + 5), .ref (p + 6), .int 0, .ref (p + 7), .ref (p + 8), .ref (p + 9), .int 0, .ref (p + 10), .ref (p + 11), .ref (p + 12), .ref (p + 13), .ref (p + 14), .ref (p + 15), .ref (p + 16), .null, .null, .null, .null, .null, .null]) 0 (Nat.le_of_ble_eq_true rfl) (KK16 q) Q16 hq (Nat.le_of_ble_eq_true rfl) rfl rfl
  clear Q16
  obtain ⟨m17, e17, Q18⟩ := mi_I (α := Unit × gM) (k := 21) (n := 48) (fs' := [.int 0, .ref (p + 0), .int 0, .ref (p + 1), .ref (p + 2), .ref (p + 3), .ref (p + 4), .ref (p + 5), .ref (p + 6), .int 0, .ref (p + 7), .ref (p + 8), .ref (p + 9), .int 0, .ref (p + 10), .ref (p + 11), .ref (p + 12), .ref (p + 13), .ref (p + 14), .ref (p + 15), .ref (p + 16), .ref (p + 17), .null, .null, .null, .null, .null]) 0 (Nat.le_of_ble_eq_true rfl) (KK17 q) Q17 hq (Nat.le_of_ble_eq_true rfl) rfl rfl
  clear Q17
  obtain ⟨m18, e18, Q19⟩ := mi_I (α := Unit × gM) (k := 22) (n := 80000) (fs' := [.int 0, .ref (p + 0), .int 0, .ref (p + 1), .ref (p + 2), .ref (p + 3), .ref (p + 4), .ref (p + 5), .ref (p + 6), .int 0, .ref (p + 7), .ref (p + 8), .ref (p + 9), .int 0, .ref (p + 10), .ref (p + 11), .ref (p + 12), .ref (p + 13), .ref (p + 14), .ref (p + 15), .ref (p + 16), .ref (p + 17), .ref (p + 18), .null, .null, .null, .null]) 2 (Nat.le_of_ble_eq_true rfl) (KK18 q) Q18 hq (Nat.le_of_ble_eq_true rfl) rfl rfl
  clear Q18
  obtain ⟨m19, e19, Q20⟩ := mi_I (α := Unit × gM) (k := 23) (n := 8) (fs' := [.int 0, .ref (p + 0), .int 0, .ref (p + 1), .ref (p + 2), .ref (p + 3), .ref (p + 4), .ref (p + 5), .ref (p + 6), .int 0, .ref (p + 7), .ref (p + 8), .ref (p + 9), .int 0, .ref (p + 10), .ref (p + 11), .ref (p + 12), .ref (p + 13), .ref (p + 14), .ref (p + 15), .ref (p + 16), .ref (p + 17), .ref (p + 18), .ref (p + 19), .null, .null, .null]) 0 (Nat.le_of_ble_eq_true rfl) (KK19 q) Q19 hq (Nat.le_of_ble_eq_true rfl) rfl rfl
  clear Q19
  obtain ⟨m20, e20, Q21⟩ := mi_L (α := Unit × gM) (k := 24) (n := 48) (fs' := [.int 0, .ref (p + 0), .int 0, .ref (p + 1), .ref (p + 2), .ref (p + 3), .ref (p + 4), .ref (p + 5), .ref (p + 6), .int 0, .ref (p + 7), .ref (p + 8), .ref (p + 9), .int 0, .ref (p + 10), .ref (p + 11), .ref (p + 12), .ref (p + 13), .ref (p + 14), .ref (p + 15), .ref (p + 16), .ref (p + 17), .ref (p + 18), .ref (p + 19), .ref (p + 20), .null, .null]) 1 (Nat.le_of_ble_eq_true rfl) (KK20 q) Q20 hq (Nat.le_of_ble_eq_true rfl) rfl rfl
  clear Q20
  obtain ⟨m21, e21, Q22⟩ := mi_L (α := Unit × gM) (k := 25) (n := 48) (fs' := [.int 0, .ref (p + 0), .int 0, .ref (p + 1), .ref (p + 2), .ref (p + 3), .ref (p + 4), .ref (p + 5), .ref (p + 6), .int 0, .ref (p + 7), .ref (p + 8), .ref (p + 9), .int 0, .ref (p + 10), .ref (p + 11), .ref (p + 12), .ref (p + 13), .ref (p + 14), .ref (p + 15), .ref (p + 16), .ref (p + 17), .ref (p + 18), .ref (p + 19), .ref (p + 20), .ref (p + 21), .null]) 1 (Nat.le_of_ble_eq_true rfl) (KK21 q) Q21 hq (Nat.le_of_ble_eq_true rfl) rfl rfl
  clear Q21
  obtain ⟨m22, e22, Q23⟩ := mi_I (α := Unit × gM) (k := 26) (n := 200) (fs' := [.int 0, .ref (p + 0), .int 0, .ref (p + 1), .ref (p + 2), .ref (p + 3), .ref (p + 4), .ref (p + 5), .ref (p + 6), .int 0, .ref (p + 7), .ref (p + 8), .ref (p + 9), .int 0, .ref (p + 10), .ref (p + 11), .ref (p + 12), .ref (p + 13), .ref (p + 14), .ref (p + 15), .ref (p + 16), .ref (p + 17), .ref (p + 18), .ref (p + 19), .ref (p + 20), .ref (p + 21), .ref (p + 22)]) 2 (Nat.le_of_ble_eq_true rfl) (KK22 q) Q22 hq (Nat.le_of_ble_eq_true rfl) rfl rfl
  clear Q22
  refine ⟨m22, ?_, ?_⟩
  · rw [M_init_KK, e0]
    rw [KK0, e1]
    rw [KK1, e2]
    rw [KK2, e3]
    rw [KK3, e4]
    rw [KK4, e5]
    rw [KK5, e6]
    rw [KK6, e7]
    rw [KK7, e8]
    rw [KK8, e9]
    rw [KK9, e10]
    rw [KK10, e11]
    rw [KK11, e12]
    rw [KK12, e13]
    rw [KK13, e14]
    rw [KK14, e15]
    rw [KK15, e16]
    rw [KK16, e17]
    rw [KK17, e18]
    rw [KK18, e19]
    rw [KK19, e20]
    rw [KK20, e21]
    rw [KK21, e22]
    rw [KK22]
  · obtain ⟨a1, a2, a3, a4, a5, a6⟩ := Q23
    exact ⟨a1, a2.trans (by simp only [Nat.add_assoc, Nat.reduceAdd]), a3, a4, a5, a6⟩
end IT
def iad (n0 : Nat) (k i : Nat) : Nat := match k with
  | 1 => n0 + 1 + i
  | 0 => n0 + 0
  | 3 => n0 + 4
  | 1026 => n0 + 5
  | 17 => n0 + 6
  | 1025 => n0 + 7
  | 2022 => n0 + 8
  | 100 => n0 + 9
  | 1510 => n0 + 10
  | 1511 => n0 + 11
  | 1512 => n0 + 12
  | 1513 => n0 + 13
  | 1514 => n0 + 14
  | 2510 => n0 + 15
  | 1515 => n0 + 16
  | 1516 => n0 + 17
  | 1517 => n0 + 18
  | 1518 => n0 + 19
  | 1519 => n0 + 20
  | 1520 => n0 + 21
  | 1521 => n0 + 22
  | 1522 => n0 + 23
  | 1523 => n0 + 24
  | 1524 => n0 + 25
  | 1525 => n0 + 26
  | 1526 => n0 + 27
  | 1527 => n0 + 28
  | 1528 => n0 + 29
  | 2511 => n0 + 30
  | 2512 => n0 + 31
  | 1529 => n0 + 32
  | _ => 0
def inr (d : Nat) : Nat × Nat := match d with
  | 0 => (0, 0)
  | 1 => (1, 0)
  | 2 => (1, 1)
  | 3 => (1, 2)
  | 4 => (3, 0)
  | 5 => (1026, 0)
  | 6 => (17, 0)
  | 7 => (1025, 0)
  | 8 => (2022, 0)
  | 9 => (100, 0)
  | 10 => (1510, 0)
  | 11 => (1511, 0)
  | 12 => (1512, 0)
  | 13 => (1513, 0)
  | 14 => (1514, 0)
  | 15 => (2510, 0)
  | 16 => (1515, 0)
  | 17 => (1516, 0)
  | 18 => (1517, 0)
  | 19 => (1518, 0)
  | 20 => (1519, 0)
  | 21 => (1520, 0)
  | 22 => (1521, 0)
  | 23 => (1522, 0)
  | 24 => (1523, 0)
  | 25 => (1524, 0)
  | 26 => (1525, 0)
  | 27 => (1526, 0)
  | 28 => (1527, 0)
  | 29 => (1528, 0)
  | 30 => (2511, 0)
  | 31 => (2512, 0)
  | 32 => (1529, 0)
  | _ => (0, 0)
def z0 : Nat → Nat → Nat := fun _ _ => 0
def y0 : Nat → Nat → Int64 := fun _ _ => 0
section IU
theorem ru0 {k i : Nat} (hu : ru z0 k i) : ∃ d, d < 33 ∧ k = (inr d).1 ∧ i = (inr d).2 := by
  have h2 : k ≠ 2 := fun e => Nat.lt_irrefl 0 (hu.2 e)
  have hc := hu.1
  unfold rcn at hc
  split at hc
  · exact ⟨0, by omega, rfl, by show i = 0; omega⟩
  · have h3 : i < 3 := hc
    rcases (show i = 0 ∨ i = 1 ∨ i = 2 by omega) with rfl | rfl | rfl
    · exact ⟨1, by omega, rfl, rfl⟩
    · exact ⟨2, by omega, rfl, rfl⟩
    · exact ⟨3, by omega, rfl, rfl⟩
  · exact absurd rfl h2
  · exact ⟨4, by omega, rfl, by show i = 0; omega⟩
  · exact absurd hc (Nat.not_lt_zero _)
  · exact absurd hc (Nat.not_lt_zero _)
  · exact absurd hc (Nat.not_lt_zero _)
  · exact absurd hc (Nat.not_lt_zero _)
  · exact ⟨6, by omega, rfl, by show i = 0; omega⟩
  · exact absurd hc (Nat.not_lt_zero _)
  · exact absurd hc (Nat.not_lt_zero _)
  · exact absurd hc (Nat.not_lt_zero _)
  · exact ⟨9, by omega, rfl, by show i = 0; omega⟩
  · exact absurd hc (Nat.not_lt_zero _)
  · exact absurd hc (Nat.not_lt_zero _)
  · exact absurd hc (Nat.not_lt_zero _)
  · exact absurd hc (Nat.not_lt_zero _)
  · exact absurd hc (Nat.not_lt_zero _)
  · exact ⟨7, by omega, rfl, by show i = 0; omega⟩
  · exact ⟨5, by omega, rfl, by show i = 0; omega⟩
  · exact absurd hc (Nat.not_lt_zero _)
  · exact absurd hc (Nat.not_lt_zero _)
  · exact ⟨8, by omega, rfl, by show i = 0; omega⟩
  · exact ⟨10, by omega, rfl, by show i = 0; omega⟩
  · exact ⟨11, by omega, rfl, by show i = 0; omega⟩
  · exact ⟨12, by omega, rfl, by show i = 0; omega⟩
  · exact ⟨13, by omega, rfl, by show i = 0; omega⟩
  · exact ⟨14, by omega, rfl, by show i = 0; omega⟩
  · exact ⟨16, by omega, rfl, by show i = 0; omega⟩
  · exact ⟨17, by omega, rfl, by show i = 0; omega⟩
  · exact ⟨18, by omega, rfl, by show i = 0; omega⟩
  · exact ⟨19, by omega, rfl, by show i = 0; omega⟩
  · exact ⟨20, by omega, rfl, by show i = 0; omega⟩
  · exact ⟨21, by omega, rfl, by show i = 0; omega⟩
  · exact ⟨22, by omega, rfl, by show i = 0; omega⟩
  · exact ⟨23, by omega, rfl, by show i = 0; omega⟩
  · exact ⟨24, by omega, rfl, by show i = 0; omega⟩
  · exact ⟨25, by omega, rfl, by show i = 0; omega⟩
  · exact ⟨26, by omega, rfl, by show i = 0; omega⟩
  · exact ⟨27, by omega, rfl, by show i = 0; omega⟩
  · exact ⟨28, by omega, rfl, by show i = 0; omega⟩
  · exact ⟨29, by omega, rfl, by show i = 0; omega⟩
  · exact ⟨32, by omega, rfl, by show i = 0; omega⟩
  · exact ⟨15, by omega, rfl, by show i = 0; omega⟩
  · exact ⟨30, by omega, rfl, by show i = 0; omega⟩
  · exact ⟨31, by omega, rfl, by show i = 0; omega⟩
  · exact absurd hc (Nat.not_lt_zero _)
theorem iad_inr {n0 d : Nat} (hd : d < 33) : iad n0 (inr d).1 (inr d).2 = n0 + d := by
  rcases (show d = 0 ∨ d = 1 ∨ d = 2 ∨ d = 3 ∨ d = 4 ∨ d = 5 ∨ d = 6 ∨ d = 7 ∨ d = 8 ∨ d = 9 ∨ d = 10 ∨ d = 11 ∨ d = 12 ∨ d = 13 ∨ d = 14 ∨ d = 15 ∨ d = 16 ∨ d = 17 ∨ d = 18 ∨ d = 19 ∨ d = 20 ∨ d = 21 ∨ d = 22 ∨ d = 23 ∨ d = 24 ∨ d = 25 ∨ d = 26 ∨ d = 27 ∨ d = 28 ∨ d = 29 ∨ d = 30 ∨ d = 31 ∨ d = 32 by omega) with rfl | rfl | rfl | rfl | rfl | rfl | rfl | rfl | rfl | rfl | rfl | rfl | rfl | rfl | rfl | rfl | rfl | rfl | rfl | rfl | rfl | rfl | rfl | rfl | rfl | rfl | rfl | rfl | rfl | rfl | rfl | rfl | rfl <;> rfl
theorem init_ok (n0 : Nat) (st : Nat → Nat) (L : Nat) (xs : Nat → Int32) (h0 : st 0 < n0) (h2 : st 2 < n0) : ∃ mm1 mm2 : gM, F_S_init n0 (gN (fun _ => none, n0, 0, st, L, xs) (.inr (0, [.null, .null, .null, .null, .null, .null, .int 0])) 7) = some ((), mm1) ∧ mm1.2.1 = n0 + 9 ∧ F_M_init (n0 + 9) (gN mm1 (.inr (10, [.int 0, .null, .int 0, .null, .null, .null, .null, .null, .null, .int 0, .null, .null, .null, .int 0, .null, .null, .null, .null, .null, .null, .null, .null, .null, .null, .null, .null, .null])) 27) = some ((), mm2) ∧ Rep n0 z0 y0 (iad n0) mm2 ∧ mm2.2.1 = n0 + 33 ∧ mm2.2.2.1 ≤ 100000 ∧ mm2.2.2.2 = (st, L, xs) := by
  obtain ⟨e, he⟩ : ∃ e : gM, e = gN (fun _ => none, n0, 0, st, L, xs) (.inr (0, [.null, .null, .null, .null, .null, .null, .int 0])) 7 := ⟨_, rfl⟩
  have e1 : e.2.1 = n0 + 1 := by rw [he]; rfl
  have e2 : e.2.2.1 = 7 := by rw [he]; rfl
  have e3 : e.2.2.2 = (st, L, xs) := by rw [he]; rfl
  have e4 : ∀ x, x ≠ n0 → e.1 x = none := fun x hx => by rw [he, gN_n hx]
  have e5 : e.1 n0 = some (.inr (0, [.null, .null, .null, .null, .null, .null, .int 0])) := by rw [he]; exact gN_s _ _ _
  rw [← he]
  clear he
  obtain ⟨mm1, a1, a2, a3, a4, a0, b1, b2, b3, b4, b5, b6, b7, b8, af⟩ := S_init_eq e5 (by omega)
  have p1 : mm1.2.1 = n0 + 9 := by rw [a2, e1]
  rw [e1] at a0 b1 b2 b3 b4 b5 b6 b7 b8 af
  simp only [Nat.add_assoc, Nat.reduceAdd] at a0 b2 b3 b4 b5 b6 b7 b8
  have m1 : (gN mm1 (.inr (10, [.int 0, .null, .int 0, .null, .null, .null, .null, .null, .null, .int 0, .null, .null, .null, .int 0, .null, .null, .null, .null, .null, .null, .null, .null, .null, .null, .null, .null, .null])) 27).1 (n0 + 9) = some (.inr (10, [.int 0, .null, .int 0, .null, .null, .null, .null, .null, .null, .int 0, .null, .null, .null, .int 0, .null, .null, .null, .null, .null, .null, .null, .null, .null, .null, .null, .null, .null])) := by rw [← p1]; exact gN_s _ _ _
  obtain ⟨mm2, x1, x2, x3, x4, x0, yy, xf⟩ := M_init_eq (p := n0 + 10) (show mm1.2.1 + 1 = n0 + 10 by rw [p1]) m1 (by omega)
  have old : ∀ x, x < n0 + 9 → mm2.1 x = mm1.1 x := fun x hx => by rw [xf x (by omega) (by omega), gN_n (by omega)]
  have far : ∀ x, x < n0 ∨ n0 + 33 ≤ x → mm2.1 x = none := fun x hx => by rw [xf x (by omega) (by omega), gN_n (by omega), af x (by omega) (by omega), e4 x (by omega)]
  have x4' : mm2.2.2.2 = (st, L, xs) := by
    rw [x4]
    show mm1.2.2.2 = _
    rw [a4, e3]
  have z4 : mm2.2.2.2.1 0 = st 0 := by rw [x4']
  refine ⟨mm1, mm2, a1, p1, x1, ⟨fun k i hu => ?_, fun k i k' i' hu hu' h => ?_, fun k i hu => ?_, fun q hq => far q (by omega), fun q hq => far q (Or.inl hq), by rw [x4']; exact h0, by rw [x4']; exact h2⟩, x2, ?_, x4'⟩
  · obtain ⟨d, hd, rfl, rfl⟩ := ru0 hu
    clear hu
    rcases (show d = 0 ∨ d = 1 ∨ d = 2 ∨ d = 3 ∨ d = 4 ∨ d = 5 ∨ d = 6 ∨ d = 7 ∨ d = 8 ∨ d = 9 ∨ d = 10 ∨ d = 11 ∨ d = 12 ∨ d = 13 ∨ d = 14 ∨ d = 15 ∨ d = 16 ∨ d = 17 ∨ d = 18 ∨ d = 19 ∨ d = 20 ∨ d = 21 ∨ d = 22 ∨ d = 23 ∨ d = 24 ∨ d = 25 ∨ d = 26 ∨ d = 27 ∨ d = 28 ∨ d = 29 ∨ d = 30 ∨ d = 31 ∨ d = 32 by omega) with rfl | rfl | rfl | rfl | rfl | rfl | rfl | rfl | rfl | rfl | rfl | rfl | rfl | rfl | rfl | rfl | rfl | rfl | rfl | rfl | rfl | rfl | rfl | rfl | rfl | rfl | rfl | rfl | rfl | rfl | rfl | rfl | rfl
    · exact ⟨_, by show mm2.1 (n0 + 0) = _; rw [Nat.add_zero, old _ (by omega)]; exact a0, by unfold rgd; rw [if_pos (by decide)]; exact rfl⟩
    · exact ⟨_, by show mm2.1 (n0 + 1 + 0) = _; rw [old _ (by omega)]; exact b1, by unfold rgd; rw [if_pos (by decide)]; exact ⟨0, by rw [z4, ← show e.2.2.2.1 0 = st 0 by rw [e3]]; rfl⟩⟩
    · exact ⟨_, by show mm2.1 (n0 + 1 + 1) = _; rw [old _ (by omega)]; exact b2, by unfold rgd; rw [if_pos (by decide)]; exact ⟨0, by rw [z4, ← show e.2.2.2.1 0 = st 0 by rw [e3]]; rfl⟩⟩
    · exact ⟨_, by show mm2.1 (n0 + 1 + 2) = _; rw [old _ (by omega)]; exact b3, by unfold rgd; rw [if_pos (by decide)]; exact ⟨0, by rw [z4, ← show e.2.2.2.1 0 = st 0 by rw [e3]]; rfl⟩⟩
    · exact ⟨_, by show mm2.1 (n0 + 4) = _; rw [old _ (by omega)]; exact b4, by unfold rgd; rw [if_pos (by decide)]; exact ⟨_, rfl, fun _ _ => rfl⟩⟩
    · exact ⟨_, by show mm2.1 (n0 + 5) = _; rw [old _ (by omega)]; exact b5, by unfold rgd; rw [if_neg (by decide), if_pos (by decide)]; exact ⟨_, rfl, fun _ _ => rfl⟩⟩
    · exact ⟨_, by show mm2.1 (n0 + 6) = _; rw [old _ (by omega)]; exact b6, by unfold rgd; rw [if_pos (by decide)]; exact rfl⟩
    · exact ⟨_, by show mm2.1 (n0 + 7) = _; rw [old _ (by omega)]; exact b7, by unfold rgd; rw [if_neg (by decide), if_pos (by decide)]; exact ⟨_, rfl, fun _ _ => rfl⟩⟩
    · exact ⟨_, by show mm2.1 (n0 + 8) = _; rw [old _ (by omega)]; exact b8, by unfold rgd; rw [if_neg (by decide), if_neg (by decide)]; exact ⟨_, rfl, fun _ _ => rfl⟩⟩
    · exact ⟨_, x0, by unfold rgd; rw [if_pos (by decide)]; exact rfl⟩
    · exact ⟨_, yy 0 (by omega), by unfold rgd; rw [if_neg (by decide), if_pos (by decide)]; exact ⟨_, rfl, fun _ _ => rfl⟩⟩
    · exact ⟨_, yy 1 (by omega), by unfold rgd; rw [if_neg (by decide), if_pos (by decide)]; exact ⟨_, rfl, fun _ _ => rfl⟩⟩
    · exact ⟨_, yy 2 (by omega), by unfold rgd; rw [if_neg (by decide), if_pos (by decide)]; exact ⟨_, rfl, fun _ _ => rfl⟩⟩
    · exact ⟨_, yy 3 (by omega), by unfold rgd; rw [if_neg (by decide), if_pos (by decide)]; exact ⟨_, rfl, fun _ _ => rfl⟩⟩
    · exact ⟨_, yy 4 (by omega), by unfold rgd; rw [if_neg (by decide), if_pos (by decide)]; exact ⟨_, rfl, fun _ _ => rfl⟩⟩
    · exact ⟨_, yy 5 (by omega), by unfold rgd; rw [if_neg (by decide), if_neg (by decide)]; exact ⟨_, rfl, fun _ _ => rfl⟩⟩
    · exact ⟨_, yy 6 (by omega), by unfold rgd; rw [if_neg (by decide), if_pos (by decide)]; exact ⟨_, rfl, fun _ _ => rfl⟩⟩
    · exact ⟨_, yy 7 (by omega), by unfold rgd; rw [if_neg (by decide), if_pos (by decide)]; exact ⟨_, rfl, fun _ _ => rfl⟩⟩
    · exact ⟨_, yy 8 (by omega), by unfold rgd; rw [if_neg (by decide), if_pos (by decide)]; exact ⟨_, rfl, fun _ _ => rfl⟩⟩
    · exact ⟨_, yy 9 (by omega), by unfold rgd; rw [if_neg (by decide), if_pos (by decide)]; exact ⟨_, rfl, fun _ _ => rfl⟩⟩
    · exact ⟨_, yy 10 (by omega), by unfold rgd; rw [if_neg (by decide), if_pos (by decide)]; exact ⟨_, rfl, fun _ _ => rfl⟩⟩
    · exact ⟨_, yy 11 (by omega), by unfold rgd; rw [if_neg (by decide), if_pos (by decide)]; exact ⟨_, rfl, fun _ _ => rfl⟩⟩
    · exact ⟨_, yy 12 (by omega), by unfold rgd; rw [if_neg (by decide), if_pos (by decide)]; exact ⟨_, rfl, fun _ _ => rfl⟩⟩
    · exact ⟨_, yy 13 (by omega), by unfold rgd; rw [if_neg (by decide), if_pos (by decide)]; exact ⟨_, rfl, fun _ _ => rfl⟩⟩
    · exact ⟨_, yy 14 (by omega), by unfold rgd; rw [if_neg (by decide), if_pos (by decide)]; exact ⟨_, rfl, fun _ _ => rfl⟩⟩
    · exact ⟨_, yy 15 (by omega), by unfold rgd; rw [if_neg (by decide), if_pos (by decide)]; exact ⟨_, rfl, fun _ _ => rfl⟩⟩
    · exact ⟨_, yy 16 (by omega), by unfold rgd; rw [if_neg (by decide), if_pos (by decide)]; exact ⟨_, rfl, fun _ _ => rfl⟩⟩
    · exact ⟨_, yy 17 (by omega), by unfold rgd; rw [if_neg (by decide), if_pos (by decide)]; exact ⟨_, rfl, fun _ _ => rfl⟩⟩
    · exact ⟨_, yy 18 (by omega), by unfold rgd; rw [if_neg (by decide), if_pos (by decide)]; exact ⟨_, rfl, fun _ _ => rfl⟩⟩
    · exact ⟨_, yy 19 (by omega), by unfold rgd; rw [if_neg (by decide), if_pos (by decide)]; exact ⟨_, rfl, fun _ _ => rfl⟩⟩
    · exact ⟨_, yy 20 (by omega), by unfold rgd; rw [if_neg (by decide), if_neg (by decide)]; exact ⟨_, rfl, fun _ _ => rfl⟩⟩
    · exact ⟨_, yy 21 (by omega), by unfold rgd; rw [if_neg (by decide), if_neg (by decide)]; exact ⟨_, rfl, fun _ _ => rfl⟩⟩
    · exact ⟨_, yy 22 (by omega), by unfold rgd; rw [if_neg (by decide), if_pos (by decide)]; exact ⟨_, rfl, fun _ _ => rfl⟩⟩
  · obtain ⟨d, hd, rfl, rfl⟩ := ru0 hu
    obtain ⟨d', hd', rfl, rfl⟩ := ru0 hu'
    rw [iad_inr hd, iad_inr hd'] at h
    have : d = d' := by omega
    rw [this]
    exact ⟨rfl, rfl⟩
  · obtain ⟨d, hd, rfl, rfl⟩ := ru0 hu
    rw [iad_inr hd, x2]
    omega
  · rw [x3]
    show mm1.2.2.1 + 27 + 95588 ≤ _
    omega
theorem Inv0 : Inv z0 y0 := by
  have hz : ∀ f i, z0 f i = 0 := fun _ _ => rfl
  have hy : ∀ f i, y0 f i = 0 := fun _ _ => rfl
  refine ⟨?_, ?_, ?_, ?_, ?_, ?_, ?_, ?_, ?_, ?_⟩
  · unfold I0
    simp only [hz]
    refine ⟨trivial, trivial, by omega, trivial, trivial, by omega, trivial, trivial, by omega, trivial, trivial, by omega, fun j hj => by omega, fun j hj => by omega, fun j hj => by omega⟩
  · unfold I1
    simp only [hz, hy]
    exact ⟨fun t => ⟨trivial, by omega, fun _ => trivial⟩, fun t => ⟨trivial, by omega, fun _ => trivial⟩, fun _ => trivial, fun _ => trivial, fun t j hj => by omega, fun t j hj => by omega, fun t j _ _ => ⟨trivial, trivial⟩⟩
  · intro i
    exact ⟨rfl, Nat.zero_le _⟩
  · intro s
    exact ⟨rfl, Nat.zero_le _, fun _ => rfl⟩
  · exact ⟨fun k hk => absurd hk (Nat.not_lt_zero _), fun k j hk => absurd hk (Nat.not_lt_zero _)⟩
  · exact ⟨fun k hk => absurd hk (Nat.not_lt_zero _), fun t o ho => absurd ho (Nat.not_lt_zero _), fun _ _ => rfl, fun _ => Nat.zero_le _, fun t j hj => absurd hj (Nat.not_lt_zero _), fun t j i _ hj => absurd hj (Nat.not_lt_zero _), fun k hk => absurd hk (Nat.not_lt_zero _)⟩
  · exact ⟨fun c => ⟨Nat.zero_le _, fun j _ hj => absurd hj (Nat.not_lt_zero _), fun h => absurd h (Nat.not_lt_zero _)⟩, fun k hk => absurd hk (Nat.not_lt_zero _)⟩
  · refine ⟨fun h t ht => Nat.zero_le _, fun h t ht _ => rfl, fun r k hr hk => ?_⟩
    rw [if_neg (fun w => absurd w.1 (Nat.not_lt_zero _))]
    rfl
  · refine ⟨fun h e he => absurd he (b_zero e), fun h hh => rfl, fun r e hr he => ⟨Nat.zero_le _, fun w => ?_, fun w => absurd w (b_zero e)⟩, fun e he => absurd he (Nat.not_lt_zero _), fun e k he hk => ?_⟩
    · rw [hz] at w
      omega
    · rw [if_neg (fun w => absurd w.1 (Nat.not_lt_zero _))]
      rfl
  · refine ⟨fun t => ⟨rfl, Nat.zero_le _, fun _ => rfl⟩, fun t i hi => absurd hi (Nat.not_lt_zero _), fun t i j _ hj => absurd hj (Nat.not_lt_zero _), fun t b hb => absurd hb (Nat.not_lt_zero _), fun t n => ⟨fun ⟨b, hb, _⟩ => absurd hb (Nat.not_lt_zero _), fun ⟨i, hi, _⟩ => absurd hi (Nat.not_lt_zero _)⟩, fun t n _ => Nat.zero_le _, fun t n i _ hi => absurd hi.1 (Nat.not_lt_zero _), fun t n _ _ => rfl⟩
end IU
