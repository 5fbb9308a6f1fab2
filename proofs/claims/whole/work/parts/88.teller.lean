/-! teller -/
section TE
variable {n0 : Nat} {σ σ' : Nat → Nat → Nat} {τ τ' : Nat → Nat → Int64} {ad ad' : Nat → Nat → Nat} {mm mm' : gM}
theorem Inv.len (hI : Inv σ τ) (i : Nat) : σ 40 i ≤ 200 := by
  obtain ⟨e1, e2, e3, e4, e5, e6, e7, e8, e9, e10, e11, e12, -⟩ := hI.1
  rcases Nat.lt_or_ge i 3 with z | z
  · rcases Nat.lt_or_ge i 1 with y | y
    · rw [show i = 0 by omega]; omega
    · rcases Nat.lt_or_ge i 2 with x | x
      · rw [show i = 1 by omega]; omega
      · rw [show i = 2 by omega]; omega
  · have := hI.2.2.2.2.2.1.2.2.2.1 (i - 3)
    rw [show 3 + (i - 3) = i by omega] at this
    omega
theorem rfs_t {T k i k' i' : Nat} (hu : ru σ k i) (e4 : σ 42 1 = T) (e5 : σ 40 0 = T) (e13 : ∀ j, j < T → σ 41 j = j) (hr : rfs σ k i k' i') : ¬ ntl T k' i' := by
  intro hn
  have hc := hu.1
  clear hu
  unfold rfs at hr
  unfold ntl tk at hn
  split at hr
  · omega
  · omega
  · obtain ⟨r1, j, r2, r3⟩ := hr
    unfold rek at r1
    split at r1
    · rw [Nat.zero_mul, Nat.zero_add, e13 j (by omega)] at r3
      omega
    · omega
    · omega
    · omega
  · omega
  · omega
  · have : i < σ 42 1 := hc
    omega
  · have : i < σ 42 1 := hc
    omega
  · have : i < σ 42 1 := hc
    omega
  · omega
  · omega
  · omega
  · omega
  · next a0 a1 a2 a3 a10 a11 a12 a16 a17 a20 a21 a30 =>
    clear a0 a1 a2 a3 a10 a11 a12 a16 a17 a20 a21 a30 hc e13 e4 e5
    omega
/-- a new teller's cells are the state's -/
theorem Rep.teller (h : Rep n0 σ τ ad mm) (hI : Inv σ τ) (h2 : Rep n0 σ τ ad mm') (hst : mm'.2.2.2 = mm.2.2.2) (hn : mm.2.1 + 9 ≤ mm'.2.1)
    (c0 : mm'.1 mm.2.1 = some (.inr (1, [.ref (mm.2.1 + 1), .ref (mm.2.1 + 2), .ref (mm.2.1 + 6), .int 0]))) (c1 : mm'.1 (mm.2.1 + 1) = some (.inr (9, [.ref (mm.2.2.2.1 0), .int 0, .int 0]))) (c2 : mm'.1 (mm.2.1 + 2) = some (.inr (2, [.ref (mm.2.1 + 3), .ref (mm.2.1 + 4), .ref (mm.2.1 + 5), .int 0]))) (c3 : mm'.1 (mm.2.1 + 3) = some (.inl (0, 6, .inl (fun _ => 0)))) (c4 : mm'.1 (mm.2.1 + 4) = some (.inl (0, 6, .inl (fun _ => 0)))) (c5 : mm'.1 (mm.2.1 + 5) = some (.inl (0, 6, .inl (fun _ => 0)))) (c6 : mm'.1 (mm.2.1 + 6) = some (.inr (3, [.ref (mm.2.1 + 7), .ref (mm.2.1 + 8), .int 0]))) (c7 : mm'.1 (mm.2.1 + 7) = some (.inl (1, 6, .inr (.inl (fun _ => 0))))) (c8 : mm'.1 (mm.2.1 + 8) = some (.inl (1, 6, .inr (.inl (fun _ => 0))))) :
    ∃ (σ' ad' : Nat → Nat → Nat), Rep n0 σ' τ ad' mm' ∧ (∀ f, f ≠ 42 → f ≠ 20 → f ≠ 21 → f ≠ 22 → σ' f = σ f) ∧ (∀ i, σ' 42 i = if i = 1 then σ 500 0 + 1 else σ 42 i) ∧ (∀ f t j, (f = 20 ∨ f = 21 ∨ f = 22) → t ≠ σ 500 0 → j < 6 → σ' f (t * 6 + j) = σ f (t * 6 + j)) ∧ ad' 11 (σ 500 0) = mm.2.1 ∧ (∀ k i, ¬ ntl (σ 500 0) k i → ad' k i = ad k i) := by
  obtain ⟨h0, h1, h2', h3, h4, h5, h6, h7, h8, h9⟩ := id hI
  obtain ⟨e1, e2, e3, e4, e5, e6, e7, e8, e9, e10, e11, e12, e13, e14, e15⟩ := id h0
  obtain ⟨σa, hσa⟩ : ∃ σa : Nat → Nat → Nat, σa = fun g j => if g = 42 ∧ j = 1 then σ 500 0 + 1 else if (g = 20 ∨ g = 21 ∨ g = 22) ∧ σ 500 0 * 6 ≤ j ∧ j < σ 500 0 * 6 + 6 then 0 else σ g j := ⟨_, rfl⟩
  obtain ⟨ada, hada⟩ : ∃ ada : Nat → Nat → Nat, ada = fun k i => if k = 1 ∧ i = 3 + σ 500 0 then mm.2.1 + 1 else if i = σ 500 0 ∧ k = 11 then mm.2.1 else if i = σ 500 0 ∧ k = 12 then mm.2.1 + 2 else if i = σ 500 0 ∧ k = 1020 then mm.2.1 + 3 else if i = σ 500 0 ∧ k = 1021 then mm.2.1 + 4 else if i = σ 500 0 ∧ k = 1022 then mm.2.1 + 5 else if i = σ 500 0 ∧ k = 16 then mm.2.1 + 6 else if i = σ 500 0 ∧ k = 2020 then mm.2.1 + 7 else if i = σ 500 0 ∧ k = 2021 then mm.2.1 + 8 else ad k i := ⟨_, rfl⟩
  have a1 : ada 1 (3 + σ 500 0) = mm.2.1 + 1 := by rw [hada]; simp
  have a11 : ada 11 (σ 500 0) = mm.2.1 := by rw [hada]; simp
  have a12 : ada 12 (σ 500 0) = mm.2.1 + 2 := by rw [hada]; simp
  have a1020 : ada 1020 (σ 500 0) = mm.2.1 + 3 := by rw [hada]; simp
  have a1021 : ada 1021 (σ 500 0) = mm.2.1 + 4 := by rw [hada]; simp
  have a1022 : ada 1022 (σ 500 0) = mm.2.1 + 5 := by rw [hada]; simp
  have a16 : ada 16 (σ 500 0) = mm.2.1 + 6 := by rw [hada]; simp
  have a2020 : ada 2020 (σ 500 0) = mm.2.1 + 7 := by rw [hada]; simp
  have a2021 : ada 2021 (σ 500 0) = mm.2.1 + 8 := by rw [hada]; simp
  have aold : ∀ k i, ¬ ntl (σ 500 0) k i → ada k i = ad k i := by
    intro k i hn
    unfold ntl tk at hn
    rw [hada]
    simp only
    rw [if_neg (by omega), if_neg (by omega), if_neg (by omega), if_neg (by omega), if_neg (by omega), if_neg (by omega), if_neg (by omega), if_neg (by omega), if_neg (by omega)]
  have s42 : ∀ i, σa 42 i = if i = 1 then σ 500 0 + 1 else σ 42 i := by
    intro i
    rw [hσa]
    simp
  have sf : ∀ f, f ≠ 42 → f ≠ 20 → f ≠ 21 → f ≠ 22 → σa f = σ f := by
    intro f f1 f2 f3 f4
    funext j
    rw [hσa]
    simp only
    rw [if_neg (by omega), if_neg (by omega)]
  have sz : ∀ f j, (f = 20 ∨ f = 21 ∨ f = 22) → j < 6 → σa f (σ 500 0 * 6 + j) = 0 := by
    intro f j hf hj
    rw [hσa]
    simp only
    rw [if_neg (by omega), if_pos (by omega)]
  have so : ∀ f t j, (f = 20 ∨ f = 21 ∨ f = 22) → t ≠ σ 500 0 → j < 6 → σa f (t * 6 + j) = σ f (t * 6 + j) := by
    intro f t j hf ht hj
    rw [hσa]
    simp only
    rw [if_neg (by omega), if_neg (by omega)]
  have hz : σ 40 (3 + σ 500 0) = 0 := h5.2.2.1 _ (Nat.le_refl _)
  have rt : ∀ k i, ru σa k i → ntl (σ 500 0) k i ∨ (ru σ k i ∧ ¬ ntl (σ 500 0) k i) := fun k i hu => ru_teller e4 (by rw [s42]; simp) (by rw [s42]; simp) (by rw [s42]; simp) (by rw [s42]; simp) (sf 40 (by omega) (by omega) (by omega) (by omega)) hz hu
  have lt : ∀ k i, ru σ k i → ad k i < mm.2.1 := fun k i hu => (h.2.2.1 k i hu).2
  have z0 : (0 : Int32) = nI 0 := rfl
  refine ⟨σa, ada, h2.adopt (q0 := mm.2.1) h.n0le lt (fun k i hu => ?_) (fun k i k' i' hu hu' hq he => ?_) (fun k i c hu hu' hg => ?_), sf, s42, so, a11, aold⟩
  · rcases rt k i hu with z | ⟨z1, z2⟩
    · right
      have k10 := (h1.1 (σ 500 0)).2.2 (Nat.le_refl _)
      have k12 := (h1.2.1 (σ 500 0)).2.2 (Nat.le_refl _)
      have k11 := (h9.1 (σ 500 0)).2.2 (Nat.le_refl _)
      have k7 := h1.2.2.2.2.2.2
      unfold ntl tk at z
      rcases z with ⟨rfl, rfl⟩ | ⟨rfl, rfl | rfl | rfl | rfl | rfl | rfl | rfl | rfl⟩
      · rw [a1]
        refine ⟨by omega, by omega, _, c1, ?_⟩
        unfold rgd
        rw [if_pos (by omega)]
        refine ⟨0, ?_⟩
        rw [sf 40 (by omega) (by omega) (by omega) (by omega), hz, if_pos rfl, hst]
        rfl
      · rw [a11]
        refine ⟨by omega, by omega, _, c0, ?_⟩
        unfold rgd
        rw [if_pos (by omega)]
        show _ = _
        rw [a1, a12, a16, sf 10 (by omega) (by omega) (by omega) (by omega), k10]
        rfl
      · rw [a12]
        refine ⟨by omega, by omega, _, c2, ?_⟩
        unfold rgd
        rw [if_pos (by omega)]
        show _ = _
        rw [a1020, a1021, a1022, sf 11 (by omega) (by omega) (by omega) (by omega), k11]
        rfl
      · rw [a16]
        refine ⟨by omega, by omega, _, c6, ?_⟩
        unfold rgd
        rw [if_pos (by omega)]
        show _ = _
        rw [a2020, a2021, sf 12 (by omega) (by omega) (by omega) (by omega), k12]
        rfl
      · rw [a1020]
        refine ⟨by omega, by omega, _, c3, ?_⟩
        unfold rgd
        rw [if_neg (by omega), if_pos (by omega)]
        exact ⟨_, rfl, fun j hj => by rw [show (1020 : Nat) - 1000 = 20 from rfl, show rln 1020 = 6 from rfl, sz 20 j (by omega) hj]; rfl⟩
      · rw [a1021]
        refine ⟨by omega, by omega, _, c4, ?_⟩
        unfold rgd
        rw [if_neg (by omega), if_pos (by omega)]
        exact ⟨_, rfl, fun j hj => by rw [show (1021 : Nat) - 1000 = 21 from rfl, show rln 1021 = 6 from rfl, sz 21 j (by omega) hj]; rfl⟩
      · rw [a1022]
        refine ⟨by omega, by omega, _, c5, ?_⟩
        unfold rgd
        rw [if_neg (by omega), if_pos (by omega)]
        exact ⟨_, rfl, fun j hj => by rw [show (1022 : Nat) - 1000 = 22 from rfl, show rln 1022 = 6 from rfl, sz 22 j (by omega) hj]; rfl⟩
      · rw [a2020]
        refine ⟨by omega, by omega, _, c7, ?_⟩
        unfold rgd
        rw [if_neg (by omega), if_neg (by omega)]
        exact ⟨_, rfl, fun j hj => by rw [show (2020 : Nat) - 2000 = 20 from rfl, show rln 2020 = 6 from rfl, (k7 _ j (Nat.le_refl _) hj).1]⟩
      · rw [a2021]
        refine ⟨by omega, by omega, _, c8, ?_⟩
        unfold rgd
        rw [if_neg (by omega), if_neg (by omega)]
        exact ⟨_, rfl, fun j hj => by rw [show (2021 : Nat) - 2000 = 21 from rfl, show rln 2021 = 6 from rfl, (k7 _ j (Nat.le_refl _) hj).2]⟩
    · exact Or.inl ⟨z1, aold k i z2⟩
  · have hn1 : ntl (σ 500 0) k i := by
      rcases rt k i hu with z | ⟨z1, z2⟩
      · exact z
      · have := lt k i z1
        rw [aold k i z2] at hq
        omega
    have hn2 : ntl (σ 500 0) k' i' := by
      rcases rt k' i' hu' with z | ⟨z1, z2⟩
      · exact z
      · have := lt k' i' z1
        rw [aold k' i' z2] at he
        omega
    unfold ntl tk at hn1 hn2
    rcases hn1 with ⟨rfl, rfl⟩ | ⟨rfl, rfl | rfl | rfl | rfl | rfl | rfl | rfl | rfl⟩ <;> rcases hn2 with ⟨rfl, rfl⟩ | ⟨rfl, rfl | rfl | rfl | rfl | rfl | rfl | rfl | rfl⟩ <;> first | exact ⟨rfl, rfl⟩ | (exfalso; omega)
  · refine rgd_ad (fun f j hf => by rw [sf f (by omega) (by omega) (by omega) (by omega)]) (fun _ _ _ => rfl) (fun k' i' hr => aold k' i' (fun hn => ?_)) (fun b1 b2 j hj => ?_) (fun _ _ _ => rfl) hg
    · exact rfs_t hu e4 e5 e13 hr hn
    · by_cases hk : k - 1000 = 20 ∨ k - 1000 = 21 ∨ k - 1000 = 22
      · have hln : rln k = 6 := by
          rcases hk with w | w | w
          · rw [show k = 1020 by omega]; rfl
          · rw [show k = 1021 by omega]; rfl
          · rw [show k = 1022 by omega]; rfl
        rw [hln] at hj ⊢
        refine so _ i j hk ?_ hj
        have hc := hu.1
        rw [rcn_t σ (by unfold tk; omega)] at hc
        omega
      · rw [sf _ (by
          have := ru_ar b1 b2 hu
          unfold rar at this
          omega) (by omega) (by omega) (by omega)]
end TE
