section CP
variable {n0 : Nat} {σ σ' : Nat → Nat → Nat} {τ τ' : Nat → Nat → Int64} {ad : Nat → Nat → Nat} {mm : gM}
theorem ix6' (t : Nat) : (6 : Int32) * nI t = nI (t * 6 + 0) := by
  rw [show (6 : Int32) = nI 6 from rfl, pk_mul, Nat.mul_comm]
  rfl
theorem Step.corrected (h : Rep n0 σ τ ad mm) (hI : Inv σ τ) (a : Int32) (x : Int64) (p : Int32) : Step n0 ad mm (F_S_corrected (ad 0 0) a x p) (F_M_corrected (ad 100 0) a x p) := by
  obtain ⟨h0, h1, h2, h3, h4, h5, h6, h7, h8, h9⟩ := id hI
  rcases tel h h0 a with ⟨hS, hM⟩ | ⟨t, ht, rfl⟩
  · refine Step.same (r := -1) h hI ?_ ?_
    · unfold F_S_corrected
      simp only [h.xS, gb1_some, gb2_some, hS, if_true]
    · unfold F_M_corrected
      simp only [gLet_eq, h.xM, gb1_some, gb2_some, hM, if_true]
  obtain ⟨e1, e2, e3, e4, e5, e6, e7, e8, e9, -⟩ := id h0
  have hS := S_tellerAt_yes h h0 ht
  have hM := M_isTeller_yes h ht e6
  rcases isInS mm x with hx | ⟨hx, cx⟩
  · refine Step.same (r := -1) h hI ?_ ?_
    · unfold F_S_corrected
      simp only [h.xS, gb1_some, gb2_some, hS, S_isSecond_eq, hx, if_true, reduceCtorEq, if_false]
    · unfold F_M_corrected
      simp only [gLet_eq, h.xM, gb1_some, gb2_some, hM, hx, if_true, if_neg (show ¬ (1 : Int32) = 0 by decide)]
  by_cases p0 : p < 0
  · refine Step.same (r := -1) h hI ?_ ?_
    · unfold F_S_corrected
      simp only [h.xS, gb1_some, gb2_some, hS, S_isSecond_eq, hx, if_true, reduceCtorEq, if_false, if_neg (show ¬ (1 : Int32) = 0 by decide), if_pos p0]
    · unfold F_M_corrected
      simp only [gLet_eq, h.xM, gb1_some, gb2_some, hM, hx, if_true, if_neg (show ¬ (1 : Int32) = 0 by decide), if_pos p0]
  by_cases p1 : ¬ p ≤ 1
  · refine Step.same (r := -1) h hI ?_ ?_
    · unfold F_S_corrected
      simp only [h.xS, gb1_some, gb2_some, hS, S_isSecond_eq, hx, if_true, reduceCtorEq, if_false, if_neg (show ¬ (1 : Int32) = 0 by decide), if_neg p0, if_neg p1]
    · unfold F_M_corrected
      simp only [gLet_eq, h.xM, gb1_some, gb2_some, hM, hx, if_true, if_neg (show ¬ (1 : Int32) = 0 by decide), if_neg p0, if_neg p1]
  replace p1 := Classical.not_not.mp p1
  obtain ⟨k1, k2, k3, k4, k5, k6, k7⟩ := id h1
  obtain ⟨q1, q2, -⟩ := k2 t
  have fin : ∀ r : Int64, F_Clock_trueSecond (ad 16 t) x p mm = some (r, mm) → F_M_corrected (ad 100 0) (nI t) x p mm = some (r, mm) → Step n0 ad mm (F_S_corrected (ad 0 0) (nI t) x p) (F_M_corrected (ad 100 0) (nI t) x p) := by
    intro r z1 z2
    refine Step.same (r := r) h hI ?_ z2
    unfold F_S_corrected
    simp only [h.xS, h.xTr (t := t) (by omega), gb1_some, gb2_some, hS, S_isSecond_eq, hx, if_true, reduceCtorEq, if_false, if_neg (show ¬ (1 : Int32) = 0 by decide), if_neg p0, if_pos p1, z1]
  rcases Nat.lt_or_ge (σ 12 t) 2 with m2 | m2
  · rcases Nat.eq_zero_or_pos (σ 12 t) with m0 | m0
    · refine fin (if p = 0 then x + 0 else 1) ?_ ?_
      · unfold F_Clock_trueSecond
        simp only [gLet_eq, h.xTr (t := t) (by omega), gb1_some, m0]
        rw [if_neg (by decide), if_pos (by decide)]
        by_cases hp : p = 0
        · rw [if_pos hp, if_pos hp]
        · rw [if_neg hp, if_neg hp]
      · unfold F_M_corrected
        simp only [gLet_eq, h.xM, gb1_some, gb2_some, hM, hx, if_neg (show ¬ (1 : Int32) = 0 by decide), if_neg p0, if_pos p1, h.a528 (j := t) (by omega), ← q1, m0]
        rw [if_neg (by decide), if_pos (by decide)]
        by_cases hp : p = 0
        · rw [if_pos hp, if_pos hp]
        · rw [if_neg hp, if_neg hp]
    · have m1 : σ 12 t = 1 := by omega
      refine fin (if p = 0 then x + (τ 21 (t * 6 + 0) - τ 20 (t * 6 + 0)) else 1) ?_ ?_
      · unfold F_Clock_trueSecond
        have z20 := h.b20 (t := t) (by omega) (j := 0) (by omega)
        have z21 := h.b21 (t := t) (by omega) (j := 0) (by omega)
        simp only [gLet_eq, h.xTr (t := t) (by omega), gb1_some, m1]
        rw [if_neg (by decide), if_neg (by decide), show (0 : Int32) = nI 0 from rfl, z21, gb1_some, z20, gb1_some]
        by_cases hp : p = nI 0
        · rw [if_pos hp, if_pos hp]
        · rw [if_neg hp, if_neg hp]
      · unfold F_M_corrected
        simp only [gLet_eq, h.xM, gb1_some, gb2_some, hM, hx, if_neg (show ¬ (1 : Int32) = 0 by decide), if_neg p0, if_pos p1, h.a528 (j := t) (by omega), ← q1, m1]
        rw [if_neg (by decide), if_neg (by decide), ix6', h.b512 (j := t * 6 + 0) (by omega), gb1_some, h.b511 (j := t * 6 + 0) (by omega), gb1_some, k3, k4]
        by_cases hp : p = 0
        · rw [if_pos hp, if_pos hp]
        · rw [if_neg hp, if_neg hp]
  · obtain ⟨f, hf, hfe⟩ := gF_big
    obtain ⟨i, i1, i2, i3, i4⟩ := lineFor_loop h (t := t) (by omega) q2 x (K := fun p3 mm => some (p3, mm)) (σ 12 t - 2) 0 f (by omega) (by omega) (fun z => by omega)
    have hl : F_Clock_lineFor (ad 16 t) x mm = some (nI i, mm) := by
      unfold F_Clock_lineFor
      rw [hfe]
      exact i4
    have hMl : ∃ a', a' + 2 ≤ σ 528 t ∧ (0 < a' → τ 511 (t * 6 + a') ≤ x) ∧ (∀ j, a' < j → j + 2 ≤ σ 528 t → x < τ 511 (t * 6 + j)) ∧ ∀ K, L_M_corrected_101 K gF (some (ad 100 0)) (nI t) x p (nI (t * 6 + 0)) (nI 1) mm = K (some (ad 100 0)) x p (nI (t * 6 + a')) mm := by
      by_cases c : ∃ K : Option Nat → Int64 → Int32 → Int32 → gM → Option (Int64 × gM), True
      · -- the line does not hang on what follows
        have all := fun (K : Option Nat → Int64 → Int32 → Int32 → gM → Option (Int64 × gM)) => mline_loop h (t := t) (by omega) (by omega) x p (K := K) (σ 528 t - 2) 0 1 f (by omega) (by omega) (by omega) (fun z => by omega) (fun j j1 j2 => by omega)
        obtain ⟨a', w1, w2, w3, -⟩ := all (fun _ _ _ _ _ => none)
        refine ⟨a', w1, w2, w3, fun K => ?_⟩
        obtain ⟨a'', v1, v2, v3, v4⟩ := all K
        have : a'' = a' := by
          rcases Nat.lt_trichotomy a'' a' with z | z | z
          · exact absurd (v3 a' z w1) (Int64.not_lt.mpr (w2 (by omega)))
          · exact z
          · exact absurd (w3 a'' z v1) (Int64.not_lt.mpr (v2 (by omega)))
        rw [hfe, v4, this]
      · exact absurd ⟨fun _ _ _ _ _ => none, trivial⟩ c
    obtain ⟨a, a1, a2, a3, a4⟩ := hMl
    rw [← q1] at a1 a3
    have a3' : ∀ j, a < j → j + 2 ≤ σ 12 t → x < τ 20 (t * 6 + j) := fun j j1 j2 => by rw [k3]; exact a3 j j1 j2
    have a2' : 0 < a → τ 20 (t * 6 + a) ≤ x := fun z => by rw [k3]; exact a2 z
    obtain ⟨s, hs, rfl⟩ := l_nat cx
    have cC : ∀ j, j < σ 12 t → ∃ n : Nat, n ≤ 1000000000 ∧ τ 20 (t * 6 + j) = lN n := fun j hj => l_nat (k5 t j hj).1
    have cR : ∀ j, j < σ 12 t → ∃ n : Nat, n ≤ 1000000000 ∧ τ 21 (t * 6 + j) = lN n := fun j hj => l_nat (k5 t j hj).2
    have hia : a = i ∨ (a = i + 1 ∧ τ 20 (t * 6 + (i + 1)) = lN s) := by
      rcases Nat.lt_trichotomy a i with z | z | z
      · exact absurd (a3' i z (by omega)) (Int64.not_lt.mpr (Int64.le_of_lt (i3 (by omega))))
      · exact Or.inl z
      · right
        have u1 := a2' (by omega)
        have u2 := i2 (by omega)
        have u3 : a = i + 1 := by
          rcases Nat.lt_or_ge (i + 1) a with w | w
          · have u4 := l_mono h1 (t := t) (i + 1) (a - i - 2) (by omega)
            rw [show i + 1 + (a - i - 2) + 1 = a by omega] at u4
            exact absurd (Int64.lt_of_lt_of_le u4 (Int64.le_trans u1 u2)) (Int64.lt_irrefl)
          · omega
        subst u3
        exact ⟨rfl, Int64.le_antisymm u1 u2⟩
    obtain ⟨c, hc, ec⟩ := cC i (by omega)
    obtain ⟨c', hc', ec'⟩ := cC (i + 1) (by omega)
    obtain ⟨r, hr, er⟩ := cR i (by omega)
    obtain ⟨r', hr', er'⟩ := cR (i + 1) (by omega)
    have hcc : c < c' := by
      have := (k6 t i (by omega)).1
      rw [ec, ec'] at this
      exact (pk_lLT (by omega) (by omega)).mp this
    have hbl : τ 20 (t * 6 + (i + 1)) - τ 20 (t * 6 + i) = lN (c' - c) := by rw [ec, ec', lN_sub (by omega)]
    rcases hia with rfl | ⟨rfl, hsx⟩
    · have hne := l_above (r := r) (b := c' - c) (s := s) (c := c) (r' := r') hr (by omega) hs hc hr'
      obtain ⟨A, hA, hx1, hx2, hx3⟩ := l_abs hne
      exact fin _ (trueSecond_val h (by omega) (lN s) p m2 q2 i1 hl (by omega) (by omega) hbl (by rw [er, er', ec]) hA hx1)
        (M_corr_val h ht e6 (lN s) hx p p0 p1 (by omega) (by omega) (by omega) a4 (by omega) (by omega) (by rw [← k3, ← k3]; exact hbl) (by rw [← k3, ← k4, ← k4, er, er', ec]) hA hx2 hx3)
    · obtain ⟨c2, hc2, ec2⟩ := cC (i + 1 + 1) (by omega)
      obtain ⟨r2, hr2, er2⟩ := cR (i + 1 + 1) (by omega)
      have hcc2 : c' < c2 := by
        have := (k6 t (i + 1) (by omega)).1
        rw [ec2, ec'] at this
        exact (pk_lLT (by omega) (by omega)).mp this
      have hs' : s = c' := (pk_lEQ (by omega) (by omega)).mp (hsx.symm.trans ec')
      subst hs'
      have m1 : (s - c) * r' ≤ 1000000000 * 1000000000 := Nat.mul_le_mul (by omega) hr'
      have m3 : (c2 - s) * r' ≤ 1000000000 * 1000000000 := Nat.mul_le_mul (by omega) hr'
      have hxx : τ 21 (t * 6 + i) * lN (s - c) + (lN s - τ 20 (t * 6 + i)) * (τ 21 (t * 6 + (i + 1)) - τ 21 (t * 6 + i)) = lN ((s - c) * r') := by
        rw [er, er', ec, ← lN_sub (by omega)]
        exact l_mark hr' hcc hc'
      have g1 : Nat.gcd ((s - c) * r') (s - c) = s - c := by rw [Nat.gcd_comm, Nat.gcd_mul_right_right]
      have g2 : Nat.gcd ((c2 - s) * r') (c2 - s) = c2 - s := by rw [Nat.gcd_comm, Nat.gcd_mul_right_right]
      have pos1 : ∀ A : Nat, A < 2 ^ 63 → (if 0 < lN A then lN A else -lN A) = lN A := by
        intro A hA
        by_cases z : 0 < lN A
        · rw [if_pos z]
        · rw [if_neg z]
          rcases Nat.eq_zero_or_pos A with w | w
          · subst w; rfl
          · exact absurd ((pk_lLT (a := 0) (by omega) hA).mpr w) z
      have v1 := trueSecond_val h (t := t) (by omega) (lN s) p m2 q2 i1 hl (show 0 < s - c by omega) (by omega) hbl hxx (show (s - c) * r' < 2 ^ 63 by omega) (pos1 _ (by omega))
      have hbl2 : τ 511 (t * 6 + (i + 1 + 1)) - τ 511 (t * 6 + (i + 1)) = lN (c2 - s) := by rw [← k3, ← k3, ec2, ec', lN_sub (by omega)]
      have hxx2 : τ 512 (t * 6 + (i + 1)) * lN (c2 - s) + (lN s - τ 511 (t * 6 + (i + 1))) * (τ 512 (t * 6 + (i + 1 + 1)) - τ 512 (t * 6 + (i + 1))) = lN ((c2 - s) * r') := by
        rw [← k3, ← k4, ← k4, ec', er', Int64.sub_self, Int64.zero_mul, Int64.add_zero, lN_mul, Nat.mul_comm]
      have v2 := M_corr_val h ht e6 (lN s) hx p p0 p1 (by omega) (by omega) (by omega) a4 (show 0 < c2 - s by omega) (by omega) hbl2 hxx2 (show (c2 - s) * r' < 2 ^ 63 by omega) (fun _ => rfl) (fun z => absurd ((pk_lLE (a := 0) (by omega) (by omega)).mpr (Nat.zero_le _)) z)
      rw [g1, pk_lDiv (by omega) (by omega) (by omega), pk_lDiv (by omega) (by omega) (by omega), Nat.mul_div_cancel_left _ (by omega), Nat.div_self (by omega)] at v1
      rw [g2, pk_lDiv (by omega) (by omega) (by omega), pk_lDiv (by omega) (by omega) (by omega), Nat.mul_div_cancel_left _ (by omega), Nat.div_self (by omega)] at v2
      exact fin _ v1 v2
end CP
