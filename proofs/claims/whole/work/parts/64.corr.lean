/-! corrected -/
section CO
variable {n0 : Nat} {σ σ' : Nat → Nat → Nat} {τ τ' : Nat → Nat → Int64} {ad : Nat → Nat → Nat} {mm : gM}
theorem l0 : lN 0 = 0 := rfl
theorem gLet_eq {α β : Type} (a : α) (g : α → Option β) : gLet a g = g a := by
  have h : ∀ b, b = gLet a g → b = g a := fun b e => e.trans rfl
  exact h _ (Eq.refl _)
theorem gF_big : ∃ f, 100000 < f ∧ gF = f := ⟨gF, by unfold gF; omega, rfl⟩
theorem l_half {A B k : Nat} (hB : B < 2 ^ (k + 1)) (h0 : 0 < A % B) : B % (A % B) < 2 ^ k := by
  have hp : 2 ^ (k + 1) = 2 ^ k * 2 := Nat.pow_succ 2 k
  rcases Nat.eq_zero_or_pos B with z | z
  · subst z
    have := Nat.two_pow_pos k
    rw [Nat.zero_mod]
    exact this
  have hr : A % B < B := Nat.mod_lt _ z
  rcases Nat.lt_or_ge (2 * (A % B)) (B + 1) with q | q
  · have := Nat.mod_lt B h0
    omega
  · rw [Nat.mod_eq_sub_mod (by omega), Nat.mod_eq_of_lt (by omega)]
    omega
theorem gcd_step (A B : Nat) : Nat.gcd A B = Nat.gcd B (A % B) := by
  rw [Nat.gcd_comm A B, Nat.gcd_rec B A, Nat.gcd_comm]
theorem gd_loop {K : Int64 → gM → Option (Int64 × gM)} (k : Nat) : ∀ (A B st f : Nat), A < 2 ^ 63 → B < 2 ^ 63 → B < 2 ^ k → st + 2 * k + 1 ≤ 100 → 2 * k + 1 < f → L_Clock_greatestDivisor_15 K f (lN A) (lN B) (nI st) mm = K (lN (Nat.gcd A B)) mm := by
  induction k with
  | zero =>
    intro A B st f hA hB hk hs hf
    obtain ⟨f, rfl⟩ : ∃ g, f = g + 1 := ⟨f - 1, by omega⟩
    have : B = 0 := by omega
    subst this
    rw [L_Clock_greatestDivisor_15, if_neg (show ¬ (100 : Int32) ≤ nI st from nI_ge (b := 100) (by omega) (by omega)), l0, if_pos rfl, Nat.gcd_zero_right]
  | succ k ih =>
    intro A B st f hA hB hk hs hf
    obtain ⟨f, rfl⟩ : ∃ g, f = g + 1 := ⟨f - 1, by omega⟩
    rw [L_Clock_greatestDivisor_15, if_neg (show ¬ (100 : Int32) ≤ nI st from nI_ge (b := 100) (by omega) (by omega))]
    by_cases h0 : B = 0
    · subst h0
      rw [l0, if_pos rfl, Nat.gcd_zero_right]
    · have hBz : ¬ lN B = 0 := fun z => h0 ((pk_lEQ (b := 0) hB (by omega)).mp z)
      rw [if_neg hBz, gIf_pos hBz]
      dsimp only [gLet]
      rw [pk_lRem hA (by omega) hB, nI_1]
      have hr : A % B < B := Nat.mod_lt _ (by omega)
      obtain ⟨f, rfl⟩ : ∃ g, f = g + 1 := ⟨f - 1, by omega⟩
      rw [L_Clock_greatestDivisor_15, if_neg (show ¬ (100 : Int32) ≤ nI (st + 1) from nI_ge (b := 100) (by omega) (by omega)), gcd_step A B]
      by_cases h1 : A % B = 0
      · rw [h1, l0, if_pos rfl, Nat.gcd_zero_right]
      · have hRz : ¬ lN (A % B) = 0 := fun z => h1 ((pk_lEQ (b := 0) (by omega) (by omega)).mp z)
        rw [if_neg hRz, gIf_pos hRz]
        dsimp only [gLet]
        rw [pk_lRem hB (by omega) (by omega), nI_1, ih (A % B) (B % (A % B)) (st + 1 + 1) f (by omega) (by have := Nat.mod_lt B (show A % B > 0 by omega); omega) (l_half hk (by omega)) (by omega) (by omega), gcd_step B (A % B)]
theorem mg_loop {K : Int32 → Int64 → Int64 → Int64 → gM → Option (Int64 × gM)} {p4 : Int32} {p6 p8 : Int64} (k : Nat) : ∀ (A B f : Nat), A < 2 ^ 63 → B < 2 ^ 63 → B < 2 ^ k → 2 * k + 1 < f → L_M_corrected_231 K f p4 p6 p8 (lN A) (lN B) mm = K p4 p6 p8 (lN (Nat.gcd A B)) mm := by
  induction k with
  | zero =>
    intro A B f hA hB hk hf
    obtain ⟨f, rfl⟩ : ∃ g, f = g + 1 := ⟨f - 1, by omega⟩
    have : B = 0 := by omega
    subst this
    rw [L_M_corrected_231, if_pos (show lN 0 ≤ 0 by decide), Nat.gcd_zero_right]
  | succ k ih =>
    intro A B f hA hB hk hf
    obtain ⟨f, rfl⟩ : ∃ g, f = g + 1 := ⟨f - 1, by omega⟩
    rw [L_M_corrected_231]
    by_cases h0 : B = 0
    · subst h0
      rw [if_pos (show lN 0 ≤ 0 by decide), Nat.gcd_zero_right]
    · have hBz : ¬ lN B = 0 := fun z => h0 ((pk_lEQ (b := 0) hB (by omega)).mp z)
      have hBl : ¬ lN B ≤ 0 := fun z => by have := (pk_lLE (b := 0) hB (by omega)).mp z; omega
      rw [if_neg hBl, gIf_pos hBz]
      dsimp only [gLet]
      rw [pk_lRem hA (by omega) hB]
      have hr : A % B < B := Nat.mod_lt _ (by omega)
      obtain ⟨f, rfl⟩ : ∃ g, f = g + 1 := ⟨f - 1, by omega⟩
      rw [L_M_corrected_231, gcd_step A B]
      by_cases h1 : A % B = 0
      · rw [h1, if_pos (show lN 0 ≤ 0 by decide), Nat.gcd_zero_right]
      · have hRz : ¬ lN (A % B) = 0 := fun z => h1 ((pk_lEQ (b := 0) (by omega) (by omega)).mp z)
        have hRl : ¬ lN (A % B) ≤ 0 := fun z => by have := (pk_lLE (b := 0) (by omega) (by omega)).mp z; omega
        rw [if_neg hRl, gIf_pos hRz]
        dsimp only [gLet]
        rw [pk_lRem hB (by omega) (by omega), ih (A % B) (B % (A % B)) f (by omega) (by have := Nat.mod_lt B (show A % B > 0 by omega); omega) (l_half hk (by omega)) (by omega), gcd_step B (A % B)]
theorem l_abs {x : Int64} (h : x.toInt ≠ -9223372036854775808) : ∃ A : Nat, A < 2 ^ 63 ∧ (if 0 < x then x else -x) = lN A ∧ (0 ≤ x → x = lN A) ∧ (¬ 0 ≤ x → -x = lN A) := by
  by_cases h0 : 0 ≤ x
  · obtain ⟨A, hA, rfl⟩ := pk_lOf (x := x) (Int64.not_lt.mpr h0)
    refine ⟨A, hA, ?_, fun _ => rfl, fun z => absurd h0 z⟩
    by_cases h1 : 0 < lN A
    · rw [if_pos h1]
    · rw [if_neg h1]
      rcases Nat.eq_zero_or_pos A with z | z
      · subst z
        rfl
      · exact absurd ((pk_lLT (a := 0) (by omega) hA).mpr z) h1
  · have h1 : ¬ 0 < x := fun z => h0 (Int64.le_of_lt z)
    have hx : x.toInt < 0 := by
      have := Int64.not_le.mp h0
      rw [Int64.lt_iff_toInt_lt] at this
      simpa using this
    have hlo : -9223372036854775808 ≤ x.toInt := by have := Int64.le_toInt x; omega
    have hneg : (-x).toInt = - x.toInt := by
      rw [Int64.toInt_neg, Int.bmod_eq_of_le (by omega) (by omega)]
    obtain ⟨A, hA, hAe⟩ := pk_lOf (x := -x) (by
      rw [Int64.lt_iff_toInt_lt, hneg]
      have : (0 : Int64).toInt = 0 := rfl
      omega)
    exact ⟨A, hA, by rw [if_neg h1]; exact hAe, fun z => absurd z h0, fun _ => hAe⟩
/-- the two ways to the greatest divisor -/
theorem S_gd {x : Int64} {A B : Nat} (hA : A < 2 ^ 63) (hB : 0 < B) (hB2 : B < 2 ^ 30) (hx : (if 0 < x then x else -x) = lN A) : F_Clock_greatestDivisor x (lN B) mm = some (lN (Nat.gcd A B), mm) := by
  unfold F_Clock_greatestDivisor
  obtain ⟨f, hf, hfe⟩ := gF_big
  rw [hfe]
  dsimp only [gLet]
  have hg : 0 < Nat.gcd A B := Nat.gcd_pos_of_pos_right A hB
  have hg2 : Nat.gcd A B ≤ B := Nat.gcd_le_right A hB
  rw [hx, if_pos (show (0 : Int64) < lN B from (pk_lLT (a := 0) (by omega) (by omega)).mpr hB), show (0 : Int32) = nI 0 from rfl, gd_loop 30 A B 0 f hA (by omega) hB2 (by omega) (by omega)]
  by_cases h1 : (1 : Int64) < lN (Nat.gcd A B)
  · rw [if_pos h1]
  · rw [if_neg h1]
    rcases Nat.lt_or_ge 1 (Nat.gcd A B) with z | z
    · exact absurd ((pk_lLT (a := 1) (b := Nat.gcd A B) (by omega) (by omega)).mpr z) h1
    · rw [show Nat.gcd A B = 1 by omega]
      rfl
theorem lineFor_loop (h : Rep n0 σ τ ad mm) {t : Nat} (ht : t < σ 42 1) (hc : σ 12 t ≤ 6) (s : Int64) {K : Int32 → gM → Option (Int32 × gM)} (d : Nat) : ∀ (i f : Nat), i + d + 2 = σ 12 t → d < f → (0 < i → τ 20 (t * 6 + i) < s) → ∃ i', i' + 2 ≤ σ 12 t ∧ (i' + 2 < σ 12 t → s ≤ τ 20 (t * 6 + (i' + 1))) ∧ (0 < i' → τ 20 (t * 6 + i') < s) ∧ L_Clock_lineFor_2 K f (some (ad 16 t)) s (nI i) mm = K (nI i') mm := by
  induction d with
  | zero =>
    intro i f hi hf h0
    obtain ⟨f, rfl⟩ : ∃ g, f = g + 1 := ⟨f - 1, by omega⟩
    refine ⟨i, by omega, fun z => by omega, h0, ?_⟩
    rw [L_Clock_lineFor_2]
    simp only [h.xTr ht, gb1_some]
    rw [show (2 : Int32) = nI 2 from rfl, pk_sub (by omega), if_pos (nI_le (by omega) (by omega))]
  | succ d ih =>
    intro i f hi hf h0
    obtain ⟨f, rfl⟩ : ∃ g, f = g + 1 := ⟨f - 1, by omega⟩
    rw [L_Clock_lineFor_2]
    simp only [h.xTr ht, gb1_some]
    rw [show (2 : Int32) = nI 2 from rfl, pk_sub (by omega), if_neg (nI_ge (by omega) (by omega)), nI_1, h.b20 ht (j := i + 1) (by omega), gb1_some]
    by_cases hs : s ≤ τ 20 (t * 6 + (i + 1))
    · refine ⟨i, by omega, fun _ => hs, h0, ?_⟩
      rw [if_pos hs]
    · rw [if_neg hs]
      dsimp only [gLet]
      exact ih (i + 1) f (by omega) (by omega) (fun _ => Int64.not_le.mp hs)
theorem mline_loop (h : Rep n0 σ τ ad mm) {t : Nat} (ht : t < 8) (hc : σ 528 t ≤ 6) (s : Int64) (p4 : Int32) {K : Option Nat → Int64 → Int32 → Int32 → gM → Option (Int64 × gM)} (d : Nat) : ∀ (a k f : Nat), k + d + 1 = σ 528 t → d < f → a < k → (0 < a → τ 511 (t * 6 + a) ≤ s) → (∀ j, a < j → j < k → s < τ 511 (t * 6 + j)) →
    ∃ a', a' + 2 ≤ σ 528 t ∧ (0 < a' → τ 511 (t * 6 + a') ≤ s) ∧ (∀ j, a' < j → j + 2 ≤ σ 528 t → s < τ 511 (t * 6 + j)) ∧ L_M_corrected_101 K f (some (ad 100 0)) (nI t) s p4 (nI (t * 6 + a)) (nI k) mm = K (some (ad 100 0)) s p4 (nI (t * 6 + a')) mm := by
  induction d with
  | zero =>
    intro a k f hk hf hak h0 h1
    obtain ⟨f, rfl⟩ : ∃ g, f = g + 1 := ⟨f - 1, by omega⟩
    refine ⟨a, by omega, h0, fun j j1 j2 => h1 j j1 (by omega), ?_⟩
    rw [L_M_corrected_101]
    simp only [h.xM, h.a528 (j := t) (by omega), gb1_some]
    rw [nI_1, if_pos (nI_le (by omega) (by omega))]
  | succ d ih =>
    intro a k f hk hf hak h0 h1
    obtain ⟨f, rfl⟩ : ∃ g, f = g + 1 := ⟨f - 1, by omega⟩
    rw [L_M_corrected_101]
    simp only [h.xM, h.a528 (j := t) (by omega), gb1_some]
    rw [nI_1, if_neg (nI_ge (by omega) (by omega)), ix6, h.b511 (j := t * 6 + k) (by omega), gb1_some]
    dsimp only [gLet]
    by_cases hs : s < τ 511 (t * 6 + k)
    · rw [if_pos hs]
      exact ih a (k + 1) f (by omega) (by omega) (by omega) h0 (fun j j1 j2 => by
        by_cases e : j = k
        · subst e; exact hs
        · exact h1 j j1 (by omega))
    · rw [if_neg hs]
      exact ih k (k + 1) f (by omega) (by omega) (by omega) (fun _ => Int64.not_lt.mp hs) (fun j j1 j2 => by omega)
theorem l_nat {x : Int64} (h : cok x) : ∃ n : Nat, n ≤ 1000000000 ∧ x = lN n := by
  obtain ⟨h1, h2⟩ := h
  obtain ⟨n, hn, rfl⟩ := pk_lOf (x := x) (Int64.not_lt.mpr h1)
  exact ⟨n, (pk_lLE (b := 1000000000) hn (by omega)).mp h2, rfl⟩
theorem l_mono (h1 : I1 σ τ) {t : Nat} (i d : Nat) : i + d + 1 < σ 12 t → τ 20 (t * 6 + i) < τ 20 (t * 6 + (i + d + 1)) := by
  induction d with
  | zero => exact fun h => (h1.2.2.2.2.2.1 t i h).1
  | succ d ih => exact fun h => Int64.lt_trans (ih (by omega)) (h1.2.2.2.2.2.1 t (i + d + 1) (by omega)).1
/-- above: no overflow -/
theorem l_above {r b s c r' : Nat} (h1 : r ≤ 1000000000) (h2 : b ≤ 1000000000) (h3 : s ≤ 1000000000) (h4 : c ≤ 1000000000) (h5 : r' ≤ 1000000000) : (lN r * lN b + (lN s - lN c) * (lN r' - lN r)).toInt ≠ -9223372036854775808 := by
  have t1 : (lN r * lN b).toInt = (r * b : Nat) := by
    rw [lN_mul, pk_lT]
    have := Nat.mul_le_mul h1 h2
    omega
  have p1 : r * b ≤ 1000000000 * 1000000000 := Nat.mul_le_mul h1 h2
  have t2 : (lN s - lN c).toInt = (s : Int) - c := by
    rw [Int64.toInt_sub, pk_lT (by omega), pk_lT (by omega), Int.bmod_eq_of_le (by omega) (by omega)]
  have t3 : (lN r' - lN r).toInt = (r' : Int) - r := by
    rw [Int64.toInt_sub, pk_lT (by omega), pk_lT (by omega), Int.bmod_eq_of_le (by omega) (by omega)]
  have p2 : (((s : Int) - c) * ((r' : Int) - r)).natAbs ≤ 1000000000 * 1000000000 := by
    rw [Int.natAbs_mul]
    exact Nat.mul_le_mul (by omega) (by omega)
  have t4 : ((lN s - lN c) * (lN r' - lN r)).toInt = ((s : Int) - c) * ((r' : Int) - r) := by
    rw [Int64.toInt_mul, t2, t3, Int.bmod_eq_of_le (by omega) (by omega)]
  rw [Int64.toInt_add, t1, t4, Int.bmod_eq_of_le (by omega) (by omega)]
  omega
/-- at a mark: the line before and the line behind give the mark's true second -/
theorem l_mark {r r' c c' : Nat} (hr' : r' ≤ 1000000000) (hc : c < c') (hc' : c' ≤ 1000000000) : lN r * (lN c' - lN c) + (lN c' - lN c) * (lN r' - lN r) = lN ((c' - c) * r') := by
  have e : lN r * (lN c' - lN c) = (lN c' - lN c) * lN r := Int64.mul_comm _ _
  have e2 : lN r + (lN r' - lN r) = lN r' := by
    rw [Int64.add_comm, Int64.sub_add_cancel]
  rw [e, ← Int64.mul_add, e2, lN_sub (by omega), lN_mul]
theorem trueSecond_val (h : Rep n0 σ τ ad mm) {t : Nat} (ht : t < σ 42 1) (s : Int64) (p : Int32) (hm : 2 ≤ σ 12 t) (hm6 : σ 12 t ≤ 6) {i A B : Nat} (hi : i + 2 ≤ σ 12 t) (hl : F_Clock_lineFor (ad 16 t) s mm = some (nI i, mm)) (hB : 0 < B) (hB2 : B < 2 ^ 30) (hbl : τ 20 (t * 6 + (i + 1)) - τ 20 (t * 6 + i) = lN B) {x : Int64} (hx0 : τ 21 (t * 6 + i) * lN B + (s - τ 20 (t * 6 + i)) * (τ 21 (t * 6 + (i + 1)) - τ 21 (t * 6 + i)) = x) (hA : A < 2 ^ 63) (hx : (if 0 < x then x else -x) = lN A) :
    F_Clock_trueSecond (ad 16 t) s p mm = some (if p = 0 then x / lN (Nat.gcd A B) else lN B / lN (Nat.gcd A B), mm) := by
  unfold F_Clock_trueSecond
  simp only [h.xTr ht, gb1_some, gLet]
  have hg : 0 < Nat.gcd A B := Nat.gcd_pos_of_pos_right A hB
  have hg2 : Nat.gcd A B ≤ B := Nat.gcd_le_right A hB
  have hgz : ¬ lN (Nat.gcd A B) = 0 := fun z => by have := (pk_lEQ (b := 0) (by omega) (by omega)).mp z; omega
  rw [if_pos (show (2 : Int32) ≤ nI (σ 12 t) from nI_le (a := 2) hm (by omega)), hl]
  simp only [h.xTr ht, gb2_some, nI_1, h.b20 ht (j := i + 1) (by omega), h.b20 ht (j := i) (by omega), h.b21 ht (j := i + 1) (by omega), h.b21 ht (j := i) (by omega), gb1_some, hbl, hx0, S_gd hA hB hB2 hx, gIf_pos hgz]
  by_cases hp : p = 0
  · rw [if_pos hp, if_pos hp]
  · rw [if_neg hp, if_neg hp]
theorem M_corr_val (h : Rep n0 σ τ ad mm) {t : Nat} (ht : t < σ 500 0) (hT : σ 500 0 ≤ 8) (s : Int64) (hs : ∀ mm' : gM, F_M_isIn s 0 1000000000 mm' = some (1, mm')) (p : Int32) (hp0 : ¬ p < 0) (hp1 : p ≤ 1) (hm : 2 ≤ σ 528 t) (hm6 : σ 528 t ≤ 6) {a A B : Nat} (ha : a + 2 ≤ σ 528 t) (hl : ∀ K, L_M_corrected_101 K gF (some (ad 100 0)) (nI t) s p (nI (t * 6 + 0)) (nI 1) mm = K (some (ad 100 0)) s p (nI (t * 6 + a)) mm) (hB : 0 < B) (hB2 : B < 2 ^ 30) (hbl : τ 511 (t * 6 + (a + 1)) - τ 511 (t * 6 + a) = lN B) {x : Int64} (hx0 : τ 512 (t * 6 + a) * lN B + (s - τ 511 (t * 6 + a)) * (τ 512 (t * 6 + (a + 1)) - τ 512 (t * 6 + a)) = x) (hA : A < 2 ^ 63) (hx1 : 0 ≤ x → x = lN A) (hx2 : ¬ 0 ≤ x → -x = lN A) :
    F_M_corrected (ad 100 0) (nI t) s p mm = some (if p = 0 then x / lN (Nat.gcd A B) else lN B / lN (Nat.gcd A B), mm) := by
  unfold F_M_corrected
  obtain ⟨f, hf, hfe⟩ := gF_big
  rw [hfe] at hl ⊢
  simp only [h.xM, gb1_some, gLet, M_isTeller_yes h ht hT, gb2_some, if_neg (show ¬ (1 : Int32) = 0 by decide), hs, if_neg hp0, if_pos hp1, h.a528 (j := t) (by omega)]
  have hg : 0 < Nat.gcd A B := Nat.gcd_pos_of_pos_right A hB
  have hg2 : Nat.gcd A B ≤ B := Nat.gcd_le_right A hB
  have hgz : ¬ lN (Nat.gcd A B) = 0 := fun z => by have := (pk_lEQ (b := 0) (by omega) (by omega)).mp z; omega
  rw [if_pos (show (2 : Int32) ≤ nI (σ 528 t) from nI_le (a := 2) hm (by omega))]
  rw [show (6 : Int32) * nI t = nI (t * 6 + 0) by rw [show (6 : Int32) = nI 6 from rfl, pk_mul, Nat.mul_comm]; rfl, show (1 : Int32) = nI 1 from rfl, hl]
  simp only [h.xM, gb1_some, nI_add, show t * 6 + a + 1 = t * 6 + (a + 1) from rfl, h.b511 (j := t * 6 + (a + 1)) (by omega), h.b511 (j := t * 6 + a) (by omega), h.b512 (j := t * 6 + (a + 1)) (by omega), h.b512 (j := t * 6 + a) (by omega), hbl, hx0]
  by_cases h0 : 0 ≤ x
  · rw [if_pos h0]
    have e := hx1 h0
    rw [e, mg_loop 30 A B f hA (by omega) hB2 (by omega)]
    by_cases hp : p = 0
    · rw [if_pos hp, if_pos hp, gIf_pos hgz]
    · rw [if_neg hp, if_neg hp, gIf_pos hgz]
  · rw [if_neg h0, hx2 h0, mg_loop 30 A B f hA (by omega) hB2 (by omega)]
    by_cases hp : p = 0
    · rw [if_pos hp, if_pos hp, gIf_pos hgz]
    · rw [if_neg hp, if_neg hp, gIf_pos hgz]
end CO
