/-! set -/
section SE
variable {n0 : Nat} {σ σ' : Nat → Nat → Nat} {τ τ' : Nat → Nat → Int64} {ad ad' : Nat → Nat → Nat} {mm mm' : gM}
def nst (S k i : Nat) : Prop := (k = 20 ∧ i = S) ∨ ((k = 21 ∨ k = 1023) ∧ (i = 2 * S ∨ i = 2 * S + 1))
theorem rcn_s {k : Nat} (h1 : k ≠ 20) (h2 : k ≠ 21) (h3 : k ≠ 1023) (e0 : σ' 42 0 = σ 42 0) (e1 : σ' 42 1 = σ 42 1) (e3 : σ' 42 3 = σ 42 3) : rcn σ' k = rcn σ k := by
  unfold rcn
  split <;> first | rfl | omega
theorem ru_set {S k i : Nat} (hS : σ 42 2 = S) (e2 : σ' 42 2 = S + 1) (e0 : σ' 42 0 = σ 42 0) (e1 : σ' 42 1 = σ 42 1) (e3 : σ' 42 3 = σ 42 3) (e40 : σ' 40 = σ 40) (hu : ru σ' k i) : nst S k i ∨ (ru σ k i ∧ ¬ nst S k i) := by
  unfold ru at hu ⊢
  unfold nst
  by_cases h1 : k = 20
  · subst h1
    have hc : i < σ' 42 2 := hu.1
    by_cases hi : i = S
    · exact Or.inl (by omega)
    · exact Or.inr ⟨⟨(show i < σ 42 2 by omega), fun z => by omega⟩, fun w => by omega⟩
  by_cases h2 : k = 21
  · subst h2
    have hc : i < 2 * σ' 42 2 := hu.1
    by_cases hi : i = 2 * S ∨ i = 2 * S + 1
    · exact Or.inl (by omega)
    · exact Or.inr ⟨⟨(show i < 2 * σ 42 2 by omega), fun z => by omega⟩, fun w => by omega⟩
  by_cases h3 : k = 1023
  · subst h3
    have hc : i < 2 * σ' 42 2 := hu.1
    by_cases hi : i = 2 * S ∨ i = 2 * S + 1
    · exact Or.inl (by omega)
    · exact Or.inr ⟨⟨(show i < 2 * σ 42 2 by omega), fun z => by omega⟩, fun w => by omega⟩
  have hc := hu.1
  rw [rcn_s h1 h2 h3 e0 e1 e3] at hc
  rw [e40] at hu
  exact Or.inr ⟨⟨hc, hu.2⟩, fun w => by omega⟩
theorem rfs_s {S k i k' i' : Nat} (hu : ru σ k i) (e7 : σ 42 2 = S) (e8 : σ 40 1 = S) (e14 : ∀ j, j < S → σ 41 (1000 + j) = j) (hr : rfs σ k i k' i') : ¬ nst S k' i' := by
  intro hn
  have hc := hu.1
  clear hu
  unfold rfs at hr
  unfold nst at hn
  split at hr
  · omega
  · omega
  · obtain ⟨r1, j, r2, r3⟩ := hr
    unfold rek at r1
    split at r1
    · omega
    · rw [Nat.one_mul, e14 j (by omega)] at r3
      omega
    · omega
    · omega
  · omega
  · omega
  · omega
  · omega
  · omega
  · omega
  · have : i < σ 42 2 := hc
    omega
  · have : i < 2 * σ 42 2 := hc
    omega
  · omega
  · next a0 a1 a2 a3 a10 a11 a12 a16 a17 a20 a21 a30 =>
    clear a0 a1 a2 a3 a10 a11 a12 a16 a17 a20 a21 a30 hc e14 e7 e8
    omega
theorem Rep.set (h : Rep n0 σ τ ad mm) (hI : Inv σ τ) (h2 : Rep n0 σ τ ad mm') (hn : mm.2.1 + 5 ≤ mm'.2.1)
    (c0 : mm'.1 mm.2.1 = some (.inr (4, [.ref (mm.2.1 + 1), .ref (mm.2.1 + 3), .int 0]))) (c1 : mm'.1 (mm.2.1 + 1) = some (.inr (5, [.ref (mm.2.1 + 2), .long 0]))) (c2 : mm'.1 (mm.2.1 + 2) = some (.inl (0, 8, .inl (fun _ => 0)))) (c3 : mm'.1 (mm.2.1 + 3) = some (.inr (5, [.ref (mm.2.1 + 4), .long 0]))) (c4 : mm'.1 (mm.2.1 + 4) = some (.inl (0, 8, .inl (fun _ => 0)))) :
    ∃ ad' : Nat → Nat → Nat, Rep n0 (uS σ 42 2 (σ 502 0 + 1)) τ ad' mm' ∧ ad' 20 (σ 502 0) = mm.2.1 ∧ ad' 21 (2 * σ 502 0) = mm.2.1 + 1 ∧ ad' 1023 (2 * σ 502 0) = mm.2.1 + 2 ∧ (∀ k i, ¬ nst (σ 502 0) k i → ad' k i = ad k i) := by
  obtain ⟨h0, h1, h2', h3, h4, h5, h6, h7, h8, h9⟩ := id hI
  obtain ⟨e1, e2, e3, e4, e5, e6, e7, e8, e9, e10, e11, e12, e13, e14, e15⟩ := id h0
  obtain ⟨ada, hada⟩ : ∃ ada : Nat → Nat → Nat, ada = fun k i => if k = 20 ∧ i = σ 502 0 then mm.2.1 else if k = 21 ∧ i = 2 * σ 502 0 then mm.2.1 + 1 else if k = 1023 ∧ i = 2 * σ 502 0 then mm.2.1 + 2 else if k = 21 ∧ i = 2 * σ 502 0 + 1 then mm.2.1 + 3 else if k = 1023 ∧ i = 2 * σ 502 0 + 1 then mm.2.1 + 4 else ad k i := ⟨_, rfl⟩
  have a20 : ada 20 (σ 502 0) = mm.2.1 := by rw [hada]; simp
  have a21 : ada 21 (2 * σ 502 0) = mm.2.1 + 1 := by rw [hada]; simp
  have a23 : ada 1023 (2 * σ 502 0) = mm.2.1 + 2 := by rw [hada]; simp
  have b21 : ada 21 (2 * σ 502 0 + 1) = mm.2.1 + 3 := by rw [hada]; simp
  have b23 : ada 1023 (2 * σ 502 0 + 1) = mm.2.1 + 4 := by rw [hada]; simp
  have aold : ∀ k i, ¬ nst (σ 502 0) k i → ada k i = ad k i := by
    intro k i hn
    unfold nst at hn
    rw [hada]
    simp only
    rw [if_neg (by omega), if_neg (by omega), if_neg (by omega), if_neg (by omega), if_neg (by omega)]
  have sf : ∀ f, f ≠ 42 → uS σ 42 2 (σ 502 0 + 1) f = σ f := fun f hf => uS_g hf
  have rt : ∀ k i, ru (uS σ 42 2 (σ 502 0 + 1)) k i → nst (σ 502 0) k i ∨ (ru σ k i ∧ ¬ nst (σ 502 0) k i) := fun k i hu => ru_set e7 (uS_s _ _ _ _) (uS_i (by omega)) (uS_i (by omega)) (uS_i (by omega)) (sf 40 (by omega)) hu
  have lt : ∀ k i, ru σ k i → ad k i < mm.2.1 := fun k i hu => (h.2.2.1 k i hu).2
  have z23 : ∀ q j, 2 * σ 502 0 ≤ q → j < 8 → σ 23 (q * 8 + j) = 0 := fun q j hq hj => h7.2.1 q j hj hq
  refine ⟨ada, h2.adopt (q0 := mm.2.1) h.n0le lt (fun k i hu => ?_) (fun k i k' i' hu hu' hq he => ?_) (fun k i c hu hu' hg => ?_), a20, a21, a23, aold⟩
  · rcases rt k i hu with z | ⟨z1, z2⟩
    · right
      unfold nst at z
      rcases z with ⟨rfl, rfl⟩ | ⟨rfl | rfl, rfl | rfl⟩
      · rw [a20]
        refine ⟨by omega, by omega, _, c0, ?_⟩
        unfold rgd
        rw [if_pos (by omega)]
        show _ = _
        rw [a21, b21, sf 13 (by omega), (h3 (σ 502 0)).2.2 (Nat.le_refl _)]
        rfl
      · rw [a21]
        refine ⟨by omega, by omega, _, c1, ?_⟩
        unfold rgd
        rw [if_pos (by omega)]
        show _ = _
        rw [a23, h8.2.1 _ (Nat.le_refl _)]
      · rw [b21]
        refine ⟨by omega, by omega, _, c3, ?_⟩
        unfold rgd
        rw [if_pos (by omega)]
        show _ = _
        rw [b23, h8.2.1 _ (by omega)]
      · rw [a23]
        refine ⟨by omega, by omega, _, c2, ?_⟩
        unfold rgd
        rw [if_neg (by omega), if_pos (by omega)]
        exact ⟨_, rfl, fun j hj => by rw [show (1023 : Nat) - 1000 = 23 from rfl, show rln 1023 = 8 from rfl, sf 23 (by omega), z23 _ j (Nat.le_refl _) hj]; rfl⟩
      · rw [b23]
        refine ⟨by omega, by omega, _, c4, ?_⟩
        unfold rgd
        rw [if_neg (by omega), if_pos (by omega)]
        exact ⟨_, rfl, fun j hj => by rw [show (1023 : Nat) - 1000 = 23 from rfl, show rln 1023 = 8 from rfl, sf 23 (by omega), z23 _ j (by omega) hj]; rfl⟩
    · exact Or.inl ⟨z1, aold k i z2⟩
  · have hn1 : nst (σ 502 0) k i := by
      rcases rt k i hu with z | ⟨z1, z2⟩
      · exact z
      · have := lt k i z1
        rw [aold k i z2] at hq
        omega
    have hn2 : nst (σ 502 0) k' i' := by
      rcases rt k' i' hu' with z | ⟨z1, z2⟩
      · exact z
      · have := lt k' i' z1
        rw [aold k' i' z2] at he
        omega
    unfold nst at hn1 hn2
    rcases hn1 with ⟨rfl, rfl⟩ | ⟨rfl | rfl, rfl | rfl⟩ <;> rcases hn2 with ⟨rfl, rfl⟩ | ⟨rfl | rfl, rfl | rfl⟩ <;> first | exact ⟨rfl, rfl⟩ | (exfalso; omega)
  · exact rgd_ad (fun f j hf => by rw [sf f (by omega)]) (fun _ _ _ => rfl) (fun k' i' hr => aold k' i' (rfs_s hu e7 e8 e14 hr)) (fun b1 b2 j hj => by
      rw [sf _ (by
        have := ru_ar b1 b2 hu
        unfold rar at this
        omega)]) (fun _ _ _ => rfl) hg
theorem mset_loop {t : Nat} (ht : t < 8) {K : Option Nat → gM → Option (Int32 × gM)} (N S : Nat) (hN : N ≤ 200) (hS : S < 12) (d : Nat) : ∀ (k f : Nat) (σ : Nat → Nat → Nat) (mm : gM), Rep n0 σ τ ad mm → σ 501 0 = N → σ 502 0 = S → (∀ k, k < N → σ 511 k < 8) → k + d = N → d < f → ∃ (σ' : Nat → Nat → Nat) (mm' : gM), L_M_set_21 K f (some (ad 100 0)) (nI t) (nI k) mm = K (some (ad 100 0)) mm' ∧ mm'.2 = mm.2 ∧ Rep n0 σ' τ ad mm' ∧ (∀ g, g ≠ 516 → σ' g = σ g) ∧ ∀ j, σ' 516 j = if S * 200 + k ≤ j ∧ j < S * 200 + N then (if σ 511 (j - S * 200) = t then 1 else 0) else σ 516 j := by
  induction d with
  | zero =>
    intro k f σ mm h h1 h2 h3 hk hf
    obtain ⟨f, rfl⟩ : ∃ g, f = g + 1 := ⟨f - 1, by omega⟩
    refine ⟨σ, mm, ?_, rfl, h, fun _ _ => rfl, fun j => ?_⟩
    · rw [L_M_set_21]
      simp only [h.xM, gb1_some, h1]
      rw [if_pos (nI_le (by omega) (by omega))]
    · rw [if_neg (by omega)]
  | succ d ih =>
    intro k f σ mm h h1 h2 h3 hk hf
    obtain ⟨f, rfl⟩ : ∃ g, f = g + 1 := ⟨f - 1, by omega⟩
    have b := h3 k (by omega)
    obtain ⟨mm1, a1, b1, r1⟩ := h.w516 (j := S * 200 + k) (by omega) (if σ 511 k = t then 1 else 0)
    obtain ⟨σ', mm', c1, c2, c3, c4, c5⟩ := ih (k + 1) f _ mm1 r1 (by rw [uS_f (by omega)]; exact h1) (by rw [uS_f (by omega)]; exact h2) (by rw [uS_g (by omega)]; exact h3) (by omega) (by omega)
    refine ⟨σ', mm', ?_, by rw [c2, b1], c3, fun g hg => by rw [c4 g hg, uS_g hg], fun j => ?_⟩
    · rw [L_M_set_21]
      simp only [h.xM, gb1_some, h1, h2, h.a511 (j := k) (by omega), ix200, gLet_eq, nI_1]
      rw [if_neg (nI_ge (by omega) (by omega))]
      by_cases z : σ 511 k = t
      · rw [if_pos z, show nI 1 = (1 : Int32) from rfl] at a1
        rw [if_pos (by rw [z]), a1, gb1_some]
        exact c1
      · rw [if_neg z, show nI 0 = (0 : Int32) from rfl] at a1
        rw [if_neg (fun w => z ((nI_eq (by omega) (by omega)).mp w)), a1, gb1_some]
        exact c1
    · rw [c5, uS_g (show (511 : Nat) ≠ 516 by omega)]
      by_cases e : j = S * 200 + k
      · subst e
        rw [if_neg (show ¬ (S * 200 + (k + 1) ≤ S * 200 + k ∧ S * 200 + k < S * 200 + N) by omega), if_pos (show S * 200 + k ≤ S * 200 + k ∧ S * 200 + k < S * 200 + N by omega), uS_s, Nat.add_sub_cancel_left]
      · by_cases w : S * 200 + (k + 1) ≤ j ∧ j < S * 200 + N
        · rw [if_pos w, if_pos (show S * 200 + k ≤ j ∧ j < S * 200 + N by omega)]
        · rw [if_neg w, if_neg (show ¬ (S * 200 + k ≤ j ∧ j < S * 200 + N) by omega), uS_i e]
theorem Inv.set (hI : Inv σ τ) {t : Nat} (ht : t < σ 500 0) (hS : σ 502 0 < 12) (f : ∀ g, g ≠ 42 → g ≠ 40 → g ≠ 41 → g ≠ 23 → g ≠ 516 → g ≠ 502 → σ' g = σ g) (f42 : ∀ i, σ' 42 i = if i = 2 then σ 502 0 + 1 else σ 42 i) (f40 : ∀ i, σ' 40 i = if i = 1 then σ 502 0 + 1 else σ 40 i) (f41 : ∀ i, σ' 41 i = if i = 1000 + σ 502 0 then σ 502 0 else σ 41 i) (f23 : ∀ i, σ' 23 i = if i = 2 * σ 502 0 * 8 + t then σ 40 (3 + t) else σ 23 i) (f516 : ∀ j, σ' 516 j = if σ 502 0 * 200 ≤ j ∧ j < σ 502 0 * 200 + σ 501 0 then (if σ 511 (j - σ 502 0 * 200) = t then 1 else 0) else σ 516 j) (f502 : σ' 502 0 = σ 502 0 + 1) : Inv σ' τ := by
  obtain ⟨h0, h1, h2, h3, h4, h5, h6, h7, h8, h9⟩ := id hI
  have f501 := f 501 (by omega) (by omega) (by omega) (by omega) (by omega) (by omega)
  have f500 := f 500 (by omega) (by omega) (by omega) (by omega) (by omega) (by omega)
  have f503 := f 503 (by omega) (by omega) (by omega) (by omega) (by omega) (by omega)
  have f4 := f 4 (by omega) (by omega) (by omega) (by omega) (by omega) (by omega)
  have f5 := f 5 (by omega) (by omega) (by omega) (by omega) (by omega) (by omega)
  have f6 := f 6 (by omega) (by omega) (by omega) (by omega) (by omega) (by omega)
  have e6 := h0.2.2.2.2.2.1
  have e3 := h0.2.2.1
  have t40 : ∀ t, σ' 40 (3 + t) = σ 40 (3 + t) := fun t => by rw [f40, if_neg (by omega)]
  have t41 : ∀ t j, j < 1000 → σ' 41 ((3 + t) * 1000 + j) = σ 41 ((3 + t) * 1000 + j) := fun t j hj => by rw [f41, if_neg (by omega)]
  refine ⟨?_, h1.of (fun g hg => f g (by omega) (by omega) (by omega) (by omega) (by omega) (by omega)) (fun _ _ => rfl), h2.of (fun g hg => f g (by omega) (by omega) (by omega) (by omega) (by omega) (by omega)), fun s => ?_, h4.of (fun g hg => f g (by omega) (by omega) (by omega) (by omega) (by omega) (by omega)) (fun _ _ => rfl), ?_, h6.of (fun g hg => f g (by omega) (by omega) (by omega) (by omega) (by omega) (by omega)), ?_, ?_, h9.of (fun g hg => f g (by omega) (by omega) (by omega) (by omega) (by omega) (by omega))⟩
  · obtain ⟨e1, e2, e3, e4, e5, e6, e7, e8, e9, e10, e11, e12, e13, e14, e15⟩ := h0
    unfold I0
    rw [f 1 (by omega) (by omega) (by omega) (by omega) (by omega) (by omega), f501, f502, f503, f500, f42, f42, f42, f42, f40, f40, f40]
    simp only [if_true, if_neg (show ¬ (0 : Nat) = 2 by omega), if_neg (show ¬ (1 : Nat) = 2 by omega), if_neg (show ¬ (3 : Nat) = 2 by omega), if_neg (show ¬ (0 : Nat) = 1 by omega), if_neg (show ¬ (2 : Nat) = 1 by omega)]
    refine ⟨e1, e2, e3, e4, e5, e6, trivial, trivial, by omega, e10, e11, e12, fun j hj => ?_, fun j hj => ?_, fun j hj => ?_⟩
    · rw [f41, if_neg (by omega)]
      exact e13 j hj
    · rw [f41]
      split
      · omega
      · exact e14 j (by omega)
    · rw [f41, if_neg (by omega)]
      exact e15 j hj
  · rw [f 13 (by omega) (by omega) (by omega) (by omega) (by omega) (by omega), f 518 (by omega) (by omega) (by omega) (by omega) (by omega) (by omega), f502]
    exact ⟨(h3 s).1, (h3 s).2.1, fun z => (h3 s).2.2 (by omega)⟩
  · obtain ⟨a1, a2, a3, a4, a5, a6, a7⟩ := h5
    unfold I5
    rw [f4, f5, f6, f501, f500]
    refine ⟨fun k hk => by rw [t40]; exact a1 k hk, fun t o ho => ?_, fun t ht => by rw [t40]; exact a3 t ht, fun t => by rw [t40]; exact a4 t, fun t j hj => ?_, fun t j i hij hj => ?_, fun k hk => ?_⟩
    · rw [t40] at ho
      exact a2 t o ho
    · rw [t40] at hj
      have := a4 t
      rw [t41 t j (by omega)]
      exact a5 t j hj
    · rw [t40] at hj
      have := a4 t
      rw [t41 t i (by omega), t41 t j (by omega)]
      exact a6 t j i hij hj
    · obtain ⟨j, j1, j2⟩ := a7 k hk
      have := a4 (σ 4 k)
      exact ⟨j, by rw [t40]; exact j1, by rw [t41 _ j (by omega)]; exact j2⟩
  · obtain ⟨a1, a2, a3⟩ := h7
    unfold I7
    rw [f4, f5, f501, f502]
    refine ⟨fun u s hs => ?_, fun u s hs hu => ?_, fun r k hr hk => ?_⟩
    · rw [t40, f23]
      by_cases e : u * 8 + s = 2 * σ 502 0 * 8 + t
      · rw [if_pos e]
        obtain ⟨y1, y2⟩ := r_seg (n := 8) hs (by omega) e
        rw [y2]
        exact Nat.le_refl _
      · rw [if_neg e]
        exact a1 u s hs
    · rw [f23, if_neg (by omega)]
      exact a2 u s hs (by omega)
    · rw [f516, f23]
      by_cases hkN : k < σ 501 0
      · have hw := (h4.1 k hkN).2.1
        have hw2 := (h4.1 k hkN).1
        by_cases e : r = σ 502 0
        · subst e
          rw [if_pos (show σ 502 0 * 200 ≤ σ 502 0 * 200 + k ∧ σ 502 0 * 200 + k < σ 502 0 * 200 + σ 501 0 by omega), Nat.add_sub_cancel_left, hx_lo (by omega), ← hw2]
          by_cases q : σ 4 k = t
          · rw [if_pos q, if_pos (show 2 * σ 502 0 * 8 + σ 4 k = 2 * σ 502 0 * 8 + t by omega), if_pos (show k < σ 501 0 ∧ σ 5 k < σ 40 (3 + t) from ⟨hkN, by rw [← q]; exact h5.1 k hkN⟩)]
          · rw [if_neg q, if_neg (show ¬ 2 * σ 502 0 * 8 + σ 4 k = 2 * σ 502 0 * 8 + t by omega), a2 (2 * σ 502 0) (σ 4 k) (by omega) (Nat.le_refl _), if_neg (show ¬ (k < σ 501 0 ∧ σ 5 k < 0) by omega)]
        · rw [if_neg (show ¬ (σ 502 0 * 200 ≤ r * 200 + k ∧ r * 200 + k < σ 502 0 * 200 + σ 501 0) by omega)]
          have hne : ¬ hx r * 8 + σ 4 k = 2 * σ 502 0 * 8 + t := by
            intro w
            obtain ⟨y1, y2⟩ := r_seg (n := 8) (by omega) (by omega) w
            unfold hx at y1
            split at y1 <;> omega
          rw [if_neg hne]
          exact a3 r k hr hk
      · have hz : ∀ P : Prop, ¬ (k < σ 501 0 ∧ P) := fun P w => hkN w.1
        rw [if_neg (hz _), if_neg (show ¬ (σ 502 0 * 200 ≤ r * 200 + k ∧ r * 200 + k < σ 502 0 * 200 + σ 501 0) by omega), a3 r k hr hk, if_neg (hz _)]
  · obtain ⟨w1, w2, w3, w4, w5⟩ := h8
    unfold I8
    rw [f503, f502, f 14 (by omega) (by omega) (by omega) (by omega) (by omega) (by omega), f 15 (by omega) (by omega) (by omega) (by omega) (by omega) (by omega), f 519 (by omega) (by omega) (by omega) (by omega) (by omega) (by omega), f 520 (by omega) (by omega) (by omega) (by omega) (by omega) (by omega), f 521 (by omega) (by omega) (by omega) (by omega) (by omega) (by omega), f 24 (by omega) (by omega) (by omega) (by omega) (by omega) (by omega), f501, f4, f6, f 522 (by omega) (by omega) (by omega) (by omega) (by omega) (by omega), f 517 (by omega) (by omega) (by omega) (by omega) (by omega) (by omega)]
    exact ⟨w1, fun u hu => w2 u (by omega), w3, w4, w5⟩
theorem Step.set (h : Rep n0 σ τ ad mm) (hI : Inv σ τ) (a : Int32) : Step n0 ad mm (F_S_set (ad 0 0) a) (F_M_set (ad 100 0) a) := by
  obtain ⟨h0, h1, h2, h3, h4, h5, h6, h7, h8, h9⟩ := id hI
  obtain ⟨e1, e2, e3, e4, e5, e6, e7, e8, e9, e10, e11, e12, e13, e14, e15⟩ := id h0
  rcases tel h h0 a with ⟨hS, hM⟩ | ⟨t, ht, rfl⟩
  · refine Step.same (r := -1) h hI ?_ ?_
    · unfold F_S_set
      simp only [h.xS, gb1_some, gb2_some, hS, if_true]
    · unfold F_M_set
      simp only [h.xM, gb1_some, gb2_some, hM, if_true]
  have hS := S_tellerAt_yes h h0 ht
  have hM := M_isTeller_yes h ht e6
  by_cases hT : σ 502 0 = 12
  · refine Step.same (r := -1) h hI ?_ ?_
    · unfold F_S_set
      simp only [h.xS, gb1_some, gb2_some, hS, reduceCtorEq, if_false, h.size (l := 1) (by omega), e8, hT]
      rw [if_neg (by decide)]
    · unfold F_M_set
      simp only [h.xM, gb1_some, gb2_some, hM, if_neg (show ¬ (1 : Int32) = 0 by decide), hT]
      rw [if_pos (by decide)]
  have m1 : (gN mm (.inr (4, [.null, .null, .int 0])) 3).1 mm.2.1 = some (.inr (4, [.null, .null, .int 0])) := gN_s _ _ _
  obtain ⟨mm2, t1, t2, t3, t4, t5, t6, t7, t8, t9, t14⟩ := ShipSet_init_eq m1 (show mm.2.1 < mm.2.1 + 1 by omega)
  rw [show (gN mm (.inr (4, [.null, .null, .int 0])) 3).2.1 = mm.2.1 + 1 from rfl] at t2 t5 t6 t7 t8 t9 t14
  rw [show (gN mm (.inr (4, [.null, .null, .int 0])) 3).2.2.2 = mm.2.2.2 from rfl] at t4
  rw [show (gN mm (.inr (4, [.null, .null, .int 0])) 3).2.2.1 = mm.2.2.1 + 3 from rfl] at t3
  have hfar : ∀ x, x ≠ mm.2.1 → x < mm.2.1 + 1 ∨ mm.2.1 + 1 + 4 ≤ x → mm2.1 x = mm.1 x := fun x x1 x2 => by
    rw [t14 x x1 x2, gN_n x1]
  have r2 : Rep n0 σ τ ad mm2 := h.grow (fun x hx => hfar x (by omega) (by omega)) (by omega) (fun x hx => by
    rw [hfar x (by omega) (by omega)]
    exact h.2.2.2.1 x (by omega)) t4
  obtain ⟨ada, ra, a20, a21, a23, aold⟩ := h.set hI r2 (by omega) t5 t6 t7 t8 t9
  have u42 : uS σ 42 2 (σ 502 0 + 1) 42 2 = σ 502 0 + 1 := uS_s _ _ _ _
  obtain ⟨mm3, w1, w2, rw3⟩ := ra.w23 (t := 2 * σ 502 0) (by rw [u42]; omega) (j := t) (by omega) (σ 40 (3 + t))
  have hl40 : uS (uS σ 42 2 (σ 502 0 + 1)) 23 (2 * σ 502 0 * 8 + t) (σ 40 (3 + t)) 40 = σ 40 := by rw [uS_g (by omega), uS_g (by omega)]
  have hl41 : uS (uS σ 42 2 (σ 502 0 + 1)) 23 (2 * σ 502 0 * 8 + t) (σ 40 (3 + t)) 41 = σ 41 := by rw [uS_g (by omega), uS_g (by omega)]
  have hl42 : uS (uS σ 42 2 (σ 502 0 + 1)) 23 (2 * σ 502 0 * 8 + t) (σ 40 (3 + t)) 42 2 = σ 502 0 + 1 := by rw [uS_f (by omega), uS_s]
  have hl421 : uS (uS σ 42 2 (σ 502 0 + 1)) 23 (2 * σ 502 0 * 8 + t) (σ 40 (3 + t)) 42 1 = σ 42 1 := by rw [uS_f (by omega), uS_i (by omega)]
  obtain ⟨mm4, adb, b1, rb, b3, b4, b5, b6⟩ := rw3.app (l := 1) (e := σ 502 0) (by omega) ⟨by show σ 502 0 < uS (uS σ 42 2 (σ 502 0 + 1)) 23 (2 * σ 502 0 * 8 + t) (σ 40 (3 + t)) 42 2; rw [hl42]; omega, fun z => by cases z⟩ (fun j hj => by
    rw [hl40, e8] at hj
    rw [hl41, Nat.one_mul, e14 j hj]
    exact ⟨by show j < uS (uS σ 42 2 (σ 502 0 + 1)) 23 (2 * σ 502 0 * 8 + t) (σ 40 (3 + t)) 42 2; rw [hl42]; omega, fun z => by cases z⟩) (by rw [hl40]; have := hI.len 1; omega) (fun i _ => by rw [hl40]; have := hI.len i; omega)
  rw [hl40, e8, Nat.one_mul] at rb
  -- the class's state now
  obtain ⟨σc, hσc⟩ : ∃ σc, σc = uS (uS (uS (uS σ 42 2 (σ 502 0 + 1)) 23 (2 * σ 502 0 * 8 + t) (σ 40 (3 + t))) 40 1 (σ 502 0 + 1)) 41 (1000 + σ 502 0) (σ 502 0) := ⟨_, rfl⟩
  rw [← hσc] at rb
  have kf : ∀ g, g ≠ 42 → g ≠ 23 → g ≠ 40 → g ≠ 41 → σc g = σ g := fun g z1 z2 z3 z4 => by rw [hσc, uS_g z4, uS_g z3, uS_g z2, uS_g z1]
  have n00 : ¬ nst (σ 502 0) 0 0 := fun w => by unfold nst at w; omega
  have n11 : ¬ nst (σ 502 0) 1 1 := fun w => by unfold nst at w; omega
  have n100 : ¬ nst (σ 502 0) 100 0 := fun w => by unfold nst at w; omega
  have n1t : ¬ nst (σ 502 0) 1 (3 + t) := fun w => by unfold nst at w; omega
  have n11t : ¬ nst (σ 502 0) 11 t := fun w => by unfold nst at w; omega
  have q00 : adb 0 0 = ad 0 0 := by rw [b3 0 0 (by omega), aold 0 0 n00]
  have q11 : adb 1 1 = ad 1 1 := by rw [b3 1 1 (by omega), aold 1 1 n11]
  have q100 : adb 100 0 = ad 100 0 := by rw [b3 100 0 (by omega), aold 100 0 n100]
  have xS := rb.xS
  rw [q00, q11] at xS
  have xW := rw3.xS
  rw [aold 0 0 n00, aold 1 1 n11] at xW
  have hs1 := rb.size (l := 1) (by omega)
  rw [q11, hσc, uS_f (by omega), uS_s] at hs1
  rw [aold 1 1 n11, show rek 1 = 20 from rfl, a20] at b1
  have xA := ra.xSt (s := σ 502 0) (by rw [u42]; omega)
  rw [a20, a21] at xA
  have xH := ra.xHd (q := 2 * σ 502 0) (by rw [u42]; omega)
  rw [a21, a23] at xH
  rw [a23] at w1
  have rdM := M_isTeller_yes rb (t := t) (by rw [kf 500 (by omega) (by omega) (by omega) (by omega)]; exact ht) (by rw [kf 500 (by omega) (by omega) (by omega) (by omega)]; exact e6)
  obtain ⟨f, hf, hfe⟩ := gF_big
  obtain ⟨σd, mm5, d1, d2, rd, gd, gd'⟩ := mset_loop (n0 := n0) (ad := adb) (τ := τ) (t := t) (by omega) (K := fun p0 mm => gb1 (gfI 10 9 p0 mm) fun v28 => gb1 (gpV 10 9 p0 (.int (v28 + (1 : Int32))) mm) fun mm30 => gb1 (gfI 10 9 p0 mm30) fun v32 => some ((v32 - (1 : Int32)), mm30)) (σ 501 0) (σ 502 0) e3 (by omega) (σ 501 0) 0 f σc mm4 rb (by rw [kf 501 (by omega) (by omega) (by omega) (by omega)]) (by rw [kf 502 (by omega) (by omega) (by omega) (by omega)]) (by
    rw [kf 511 (by omega) (by omega) (by omega) (by omega)]
    exact fun k hk => (hI.mb hk).1) (by omega) (by omega)
  obtain ⟨mm6, p1, p2, rp⟩ := rd.p502 (σ 502 0 + 1)
  have gk : ∀ g, g ≠ 42 → g ≠ 23 → g ≠ 40 → g ≠ 41 → g ≠ 516 → σd g = σ g := fun g z1 z2 z3 z4 z5 => by rw [gd g z5, kf g z1 z2 z3 z4]
  refine ⟨nI (σ 502 0), mm4, mm6, _, τ, adb, ?_, ?_, rp, hI.set (t := t) ht (by omega) (fun g z1 z2 z3 z4 z5 z6 => ?_) (fun i => ?_) (fun i => ?_) (fun i => ?_) (fun i => ?_) (fun j => ?_) ?_, q00, q100, rb.mid q100, by rw [b6, w2, t4], by rw [p2, d2]; rw [w2] at b4; omega, by rw [p2, d2]; rw [w2] at b5; omega, by rw [p2, d2, b6, w2, t4]⟩
  · unfold F_S_set
    simp only [h.xS, gb1_some, gb2_some, hS, reduceCtorEq, if_false, h.size (l := 1) (by omega), e8]
    rw [if_pos (show nI (σ 502 0) < (12 : Int32) from nI_lt (b := 12) (by omega) (by omega))]
    simp only [gnO, gb2_some, gb1_some, t1, xA, xH, r2.xTr (t := t) (by omega), r2.size (l := 3 + t) (by omega), w1, xW, b1, xS, hs1, nI_pred]
  · have xM := rb.xM
    have xD := rd.xM
    have xP := rp.xM
    rw [q100] at xM xD xP rdM d1 p1
    unfold F_M_set
    rw [hfe]
    simp only [xM, gb1_some, gb2_some, rdM, if_neg (show ¬ (1 : Int32) = 0 by decide), kf 502 (by omega) (by omega) (by omega) (by omega)]
    rw [if_neg (show ¬ nI (σ 502 0) = (12 : Int32) from fun z => hT ((nI_eq (b := 12) (by omega) (by omega)).mp z)), show (0 : Int32) = nI 0 from rfl, d1]
    simp only [xD, gb1_some, gk 502 (by omega) (by omega) (by omega) (by omega) (by omega), nI_1, p1, xP, uS_s, nI_pred]
  · rw [uS_g z6, gk g z1 z4 z2 z3 z5]
  · rw [uS_f (by omega), gd 42 (by omega), hσc, uS_f (by omega), uS_f (by omega), uS_f (by omega)]
    simp only [uS, true_and]
  · rw [uS_f (by omega), gd 40 (by omega), hσc, uS_f (by omega)]
    simp only [uS, true_and, if_neg (show ¬ ((40 : Nat) = 23 ∧ i = 2 * σ 502 0 * 8 + t) from fun w => by omega), if_neg (show ¬ ((40 : Nat) = 42 ∧ i = 2) from fun w => by omega)]
  · rw [uS_f (by omega), gd 41 (by omega), hσc]
    simp only [uS, true_and, if_neg (show ¬ ((41 : Nat) = 40 ∧ i = 1) from fun w => by omega), if_neg (show ¬ ((41 : Nat) = 23 ∧ i = 2 * σ 502 0 * 8 + t) from fun w => by omega), if_neg (show ¬ ((41 : Nat) = 42 ∧ i = 2) from fun w => by omega)]
  · rw [uS_f (by omega), gd 23 (by omega), hσc, uS_f (by omega), uS_f (by omega)]
    simp only [uS, true_and, if_neg (show ¬ ((23 : Nat) = 42 ∧ i = 2) from fun w => by omega)]
  · rw [uS_f (by omega), gd', kf 516 (by omega) (by omega) (by omega) (by omega), kf 511 (by omega) (by omega) (by omega) (by omega), Nat.add_zero]
  · rw [uS_s]
end SE
