section LQ
variable {n0 : Nat} {σ σ' σ'' : Nat → Nat → Nat} {τ τ' τ'' : Nat → Nat → Int64} {ad : Nat → Nat → Nat} {mm : gM}
theorem S_great (h : Rep n0 σ τ ad mm) (hI : Inv σ τ) {t : Nat} (ht : t < σ 500 0) (k e : Int32) : ∃ G, (tld σ t G ∨ G = 0) ∧ (∀ n, tld σ t n → n ≤ G) ∧ G < 10000 ∧ F_Teller_endOfLostSpan (ad 11 t) k e mm = L_Teller_endOfLostSpan_43 (fun p2 p5 p6 mm => if p2 = 0 then some (p5, mm) else some (p6, mm)) (fun mm => some ((-1 : Int32), mm)) gF (some (ad 11 t)) k e (nI G) (0 : Int32) (1 : Int32) mm := by
  obtain ⟨h0, h1, h2, h3, h4, h5, h6, h7, h8, h9⟩ := id hI
  obtain ⟨e1, e2, e3, e4, e5, e6, -⟩ := id h0
  have hlen := h5.2.2.2.1 t
  rcases Nat.eq_zero_or_pos (σ 40 (3 + t)) with z | z
  · refine ⟨0, Or.inr rfl, ?_, by omega, ?_⟩
    · rintro n ⟨k, k1, k2, k3⟩
      obtain ⟨j, j1, j2⟩ := h5.2.2.2.2.2.2 k k1
      rw [k2] at j1
      omega
    · unfold F_Teller_endOfLostSpan
      obtain ⟨f, hf, hfe⟩ := gF_big
      rw [hfe]
      simp only [h.xTr (t := t) (by omega), gb1_some, h.isEmpty (l := 3 + t) (by omega), gb2_some, gLet_eq, if_pos z]
      rw [if_neg (by decide)]
      rfl
  · obtain ⟨m, hm⟩ : ∃ m, σ 40 (3 + t) = m + 1 := ⟨σ 40 (3 + t) - 1, by omega⟩
    obtain ⟨q1, q2⟩ := h5.2.2.2.2.1 t m (by omega)
    have qb := h4.1 _ q1
    refine ⟨σ 6 (σ 41 ((3 + t) * 1000 + m)), Or.inl ⟨_, q1, q2, rfl⟩, ?_, by omega, ?_⟩
    · rintro n ⟨k, k1, k2, k3⟩
      obtain ⟨j, j1, j2⟩ := h5.2.2.2.2.2.2 k k1
      rw [k2] at j1 j2
      rcases Nat.lt_or_ge j m with w | w
      · have := h5.2.2.2.2.2.1 t m j w (by omega)
        rw [j2] at this
        omega
      · rw [show m = j by omega, j2]
        omega
    · unfold F_Teller_endOfLostSpan
      obtain ⟨f, hf, hfe⟩ := gF_big
      rw [hfe]
      have hsz := h.size (l := 3 + t) (by omega)
      rw [hm] at hsz
      simp only [h.xTr (t := t) (by omega), gb1_some, h.isEmpty (l := 3 + t) (by omega), gb2_some, gLet_eq, if_neg (show ¬ σ 40 (3 + t) = 0 by omega), if_true, hsz, nI_pred, S_tget h (t := t) (j := m) (by omega) (by omega), h.xTl (k := σ 41 ((3 + t) * 1000 + m)) (by omega)]
theorem Step.lost (h : Rep n0 σ τ ad mm) (hI : Inv σ τ) (a k e : Int32) : Step n0 ad mm (F_S_lost (ad 0 0) a k e) (F_M_lost (ad 100 0) a k e) := by
  obtain ⟨h0, h1, h2, h3, h4, h5, h6, h7, h8, h9⟩ := id hI
  obtain ⟨e1, e2, e3, e4, e5, e6, e7, e8, e9, -⟩ := id h0
  rcases tel h h0 a with ⟨hS, hM⟩ | ⟨t, ht, rfl⟩
  · refine Step.same (r := -1) h hI ?_ ?_
    · unfold F_S_lost
      simp only [h.xS, gb1_some, gb2_some, hS, if_true]
    · unfold F_M_lost
      simp only [h.xM, gb1_some, gb2_some, hM, if_true]
  have hS := S_tellerAt_yes h h0 ht
  have hM := M_isTeller_yes h ht e6
  by_cases hk : k < 0
  · refine Step.same (r := -1) h hI ?_ ?_
    · unfold F_S_lost
      simp only [h.xS, gb1_some, gb2_some, hS, reduceCtorEq, if_false, if_pos hk]
    · unfold F_M_lost
      simp only [h.xM, gb1_some, gb2_some, hM, if_neg (show ¬ (1 : Int32) = 0 by decide), if_pos hk]
  by_cases he : e < 0
  · refine Step.same (r := -1) h hI ?_ ?_
    · unfold F_S_lost
      simp only [h.xS, gb1_some, gb2_some, hS, reduceCtorEq, if_false, if_neg hk, if_pos he]
    · unfold F_M_lost
      simp only [h.xM, gb1_some, gb2_some, hM, if_neg (show ¬ (1 : Int32) = 0 by decide), if_neg hk, if_pos he]
  by_cases he1 : ¬ e ≤ 1
  · refine Step.same (r := -1) h hI ?_ ?_
    · unfold F_S_lost
      simp only [h.xS, gb1_some, gb2_some, hS, reduceCtorEq, if_false, if_neg hk, if_neg he, if_neg he1]
    · unfold F_M_lost
      simp only [h.xM, gb1_some, gb2_some, hM, if_neg (show ¬ (1 : Int32) = 0 by decide), if_neg hk, if_neg he, if_neg he1]
  replace he1 := Classical.not_not.mp he1
  obtain ⟨k, hkb, rfl⟩ := nI_of hk
  obtain ⟨e, heb, rfl⟩ := nI_of2 (M := 1) (n := 1) rfl he he1
  obtain ⟨G, g1, g2, g3, g4⟩ := S_great h hI ht (nI k) (nI e)
  obtain ⟨u, hu⟩ := st_g σ t G
  obtain ⟨f, hf, hfe⟩ := gF_big
  rw [hfe] at g4
  -- the class
  have hc := S_span h hI ht g1 hu (nI k) (nI e) (K1 := fun p2 p5 p6 mm => if p2 = 0 then some (p5, mm) else some (p6, mm)) (K0 := fun mm => some ((-1 : Int32), mm)) G 1 f (by omega) (by omega) (by omega) (by omega) (fun _ => Or.inl rfl) (fun s hs hst => by have := hst.1; omega)
  have s1 : sm u 1 = 0 := by
    show 0 + u 0 = 0
    have := (hu 0).1
    have : u 0 ≠ 1 := fun w => by have := ((hu 0).2.mp w).1; omega
    omega
  rw [s1] at hc
  have Srun : ∀ r : Int32, L_Teller_endOfLostSpan_43 (fun p2 p5 p6 mm => if p2 = 0 then some (p5, mm) else some (p6, mm)) (fun mm => some ((-1 : Int32), mm)) f (some (ad 11 t)) (nI k) (nI e) (nI G) (nI 0) (nI 1) mm = some (r, mm) → F_S_lost (ad 0 0) (nI t) (nI k) (nI e) mm = some (r, mm) := by
    intro r hr
    unfold F_S_lost
    simp only [h.xS, gb1_some, gb2_some, hS, reduceCtorEq, if_false, if_neg hk, if_neg he, if_pos he1, h.xTr (t := t) (by omega), g4]
    have hr' : L_Teller_endOfLostSpan_43 (fun p2 p5 p6 mm => if p2 = 0 then some (p5, mm) else some (p6, mm)) (fun mm => some ((-1 : Int32), mm)) f (some (ad 11 t)) (nI k) (nI e) (nI G) 0 1 mm = some (r, mm) := hr
    rw [hr', gb2_some]
  -- the reference
  obtain ⟨G', q1, q2, q3, q4⟩ := great_loop h hI ht (nI k) (nI e) (K := fun p0 p1 p2 p3 p4 mm => L_M_lost_90 (fun p7 mm => some (p7, mm)) (fun p7 mm => some ((p7 - (1 : Int32)), mm)) (fun mm => some ((-1 : Int32), mm)) f p0 p1 p2 p3 p4 (0 : Int32) (0 : Int32) (1 : Int32) mm) (σ 501 0) 0 f 0 (by omega) (by omega) (by omega) (Or.inr rfl) (fun k hk => by omega)
  have pos : ∀ n, tld σ t n → 1 ≤ n := by
    rintro n ⟨k, k1, k2, k3⟩
    have := (h4.1 k k1).2.2.2.1
    omega
  have hGG : G' = G := by
    rcases g1 with w | w
    · have b1 := q2 G w
      rcases q1 with v | v
      · have := g2 G' v; omega
      · have := pos G w; omega
    · rcases q1 with v | v
      · have := g2 G' v; have := pos G' v; omega
      · omega
  subst hGG
  have hm := M_span h hI ht q1 q3 hu hkb heb (KA := fun p7 mm => some (p7, mm)) (KB := fun p7 mm => some ((p7 - (1 : Int32)), mm)) (K0 := fun mm => some ((-1 : Int32), mm)) G' 1 f 0 (by omega) (by omega) (by omega) (by omega) ⟨fun w => by omega, fun w => by omega⟩ (fun w s hs hst => by have := hst.1; omega) (fun w s hs hst => by have := hst.1; omega)
  rw [s1] at hm
  have Mrun : ∀ r : Int32, L_M_lost_90 (fun p7 mm => some (p7, mm)) (fun p7 mm => some ((p7 - (1 : Int32)), mm)) (fun mm => some ((-1 : Int32), mm)) f (some (ad 100 0)) (nI t) (nI k) (nI e) (nI G') (nI 0) (nI 0) (nI 1) mm = some (r, mm) → F_M_lost (ad 100 0) (nI t) (nI k) (nI e) mm = some (r, mm) := by
    intro r hr
    unfold F_M_lost
    rw [hfe]
    simp only [h.xM, gb1_some, gb2_some, hM, if_neg (show ¬ (1 : Int32) = 0 by decide), if_neg hk, if_neg he, if_pos he1]
    exact q4.trans hr
  have bnd : ∀ s, stn σ t G' s → sm u s < 2 ^ 31 := fun s hs => by
    have := sm_le (g := u) (n := s) (fun i _ => (hu i).1)
    have := hs.2.1
    omega
  rcases hc with ⟨s, l, c1, c2, c3, c4, c5, c6, c7⟩ | ⟨c1, c2⟩
  · have ck : k = sm u s := (nI_eq hkb (bnd s c1)).mp c2
    rcases hm with ⟨s', d1, d2, d3, d4⟩ | ⟨s', l', d1, d2, d3, d4, d5, d6, d7, d8⟩ | ⟨d1, d2⟩
    · have : s = s' := sm_inj2 (fun c => (hu c).1) (by have := c1.2.1; omega) (by have := d1.2.1; omega) ((hu s).2.mpr c1) ((hu s').2.mpr d1) (by rw [← ck, ← d2])
      subst this
      rw [if_pos (show nI e = 0 by rw [d3]; rfl)] at c7
      exact Step.same h hI (Srun _ c7) (Mrun _ d4)
    · have : s = s' := sm_inj2 (fun c => (hu c).1) (by have := c1.2.1; omega) (by have := d1.2.1; omega) ((hu s).2.mpr c1) ((hu s').2.mpr d1) (by rw [← ck, ← d2])
      subst this
      have hl : l = l' := by
        rcases Nat.lt_trichotomy l l' with z | z | z
        · exact absurd (d5 (l + 1) (by omega) (by omega)) c6
        · exact z
        · exact absurd (c5 (l' + 1) (by omega) (by omega)) d6
      subst hl
      rw [if_neg (show ¬ nI e = 0 by rw [d3]; decide)] at c7
      rw [nI_pred] at d8
      exact Step.same h hI (Srun _ c7) (Mrun _ d8)
    · exact absurd ck (d1 s c1)
  · rcases hm with ⟨s', d1, d2, d3, d4⟩ | ⟨s', l', d1, d2, d3, d4, d5, d6, d7, d8⟩ | ⟨d1, d2⟩
    · exact absurd (by rw [d2]) (c1 s' d1)
    · exact absurd (by rw [d2]) (c1 s' d1)
    · exact Step.same h hI (Srun _ c2) (Mrun _ d2)
end LQ
