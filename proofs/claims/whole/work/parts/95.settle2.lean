/-! settle: a new settling's cells; what holds after -/
section SL
variable {n0 : Nat} {σ σ' : Nat → Nat → Nat} {τ τ' : Nat → Nat → Int64} {ad ad' : Nat → Nat → Nat} {mm mm' : gM}
def nse (S k i : Nat) : Prop := i = S ∧ (k = 30 ∨ k = 1024)
theorem rfs_e {S k i k' i' : Nat} (hu : ru σ k i) (e10 : σ 42 3 = S) (e11 : σ 40 2 = S) (e15 : ∀ j, j < S → σ 41 (2000 + j) = j) (hr : rfs σ k i k' i') : ¬ nse S k' i' := by
  intro hn
  have hc := hu.1
  clear hu
  unfold rfs at hr
  unfold nse at hn
  split at hr
  · omega
  · omega
  · obtain ⟨r1, j, r2, r3⟩ := hr
    unfold rek at r1
    split at r1
    · omega
    · omega
    · rw [show 2 * 1000 + j = 2000 + j from rfl, e15 j (by omega)] at r3
      omega
    · omega
  · omega
  · omega
  · omega
  · omega
  · omega
  · omega
  · omega
  · omega
  · have : i < σ 42 3 := hc
    omega
  · next a0 a1 a2 a3 a10 a11 a12 a16 a17 a20 a21 a30 =>
    clear a0 a1 a2 a3 a10 a11 a12 a16 a17 a20 a21 a30 hc e15 e10 e11
    omega
theorem rcn_e {k : Nat} (hk : k ≠ 30) (hk2 : k ≠ 1024) (e0 : σ' 42 0 = σ 42 0) (e1 : σ' 42 1 = σ 42 1) (e2 : σ' 42 2 = σ 42 2) : rcn σ' k = rcn σ k := by
  unfold rcn
  split <;> first | rfl | omega
theorem Rep.settling (h : Rep n0 σ τ ad mm) (h2 : Rep n0 σ τ ad mm') (hn : mm.2.1 + 2 ≤ mm'.2.1) {S c t : Nat} {g : Nat → Int32} {w : Nat → Nat} (e10 : σ 42 3 = S) (e11 : σ 40 2 = S) (e15 : ∀ j, j < S → σ 41 (2000 + j) = j)
    (c0 : mm'.1 mm.2.1 = some (.inr (6, [.int (nI c), .int (nI t), .ref (mm.2.1 + 1)]))) (c1 : mm'.1 (mm.2.1 + 1) = some (.inl (0, 8, .inl g))) (hg : ∀ j, j < 8 → g j = nI (w j)) :
    ∃ (σ' ad' : Nat → Nat → Nat), Rep n0 σ' τ ad' mm' ∧ (∀ f, f ≠ 42 → f ≠ 14 → f ≠ 15 → f ≠ 24 → σ' f = σ f) ∧ (∀ i, σ' 42 i = if i = 3 then S + 1 else σ 42 i) ∧ (∀ i, σ' 14 i = if i = S then c else σ 14 i) ∧ (∀ i, σ' 15 i = if i = S then t else σ 15 i) ∧ (∀ e j, j < 8 → σ' 24 (e * 8 + j) = if e = S then w j else σ 24 (e * 8 + j)) ∧ ad' 30 S = mm.2.1 ∧ (∀ k i, ¬ nse S k i → ad' k i = ad k i) := by
  obtain ⟨σa, hσa⟩ : ∃ σa : Nat → Nat → Nat, σa = fun g j => if g = 14 ∧ j = S then c else if g = 15 ∧ j = S then t else if g = 24 ∧ S * 8 ≤ j ∧ j < S * 8 + 8 then w (j - S * 8) else σ g j := ⟨_, rfl⟩
  have af : ∀ g, g ≠ 14 → g ≠ 15 → g ≠ 24 → σa g = σ g := fun g z1 z2 z3 => funext (fun j => by
    rw [hσa]
    simp only
    rw [if_neg (by omega), if_neg (by omega), if_neg (by omega)])
  have s14 : ∀ i, σa 14 i = if i = S then c else σ 14 i := fun i => by rw [hσa]; simp
  have s15 : ∀ i, σa 15 i = if i = S then t else σ 15 i := fun i => by rw [hσa]; simp
  have s24 : ∀ e j, j < 8 → σa 24 (e * 8 + j) = if e = S then w j else σ 24 (e * 8 + j) := fun e j hj => by
    rw [hσa]
    show (if (24 : Nat) = 14 ∧ e * 8 + j = S then c else if (24 : Nat) = 15 ∧ e * 8 + j = S then t else if (24 : Nat) = 24 ∧ S * 8 ≤ e * 8 + j ∧ e * 8 + j < S * 8 + 8 then w (e * 8 + j - S * 8) else σ 24 (e * 8 + j)) = _
    rw [if_neg (show ¬ ((24 : Nat) = 14 ∧ e * 8 + j = S) by omega), if_neg (show ¬ ((24 : Nat) = 15 ∧ e * 8 + j = S) by omega)]
    by_cases z : e = S
    · rw [if_pos z, if_pos (show (24 : Nat) = 24 ∧ S * 8 ≤ e * 8 + j ∧ e * 8 + j < S * 8 + 8 by omega), z, Nat.add_sub_cancel_left]
    · rw [if_neg z, if_neg (show ¬ ((24 : Nat) = 24 ∧ S * 8 ≤ e * 8 + j ∧ e * 8 + j < S * 8 + 8) by omega)]
  have ha : Rep n0 σa τ ad mm' := h2.junk (fun f i z1 z2 z3 => by
    rw [hσa]
    simp only
    rw [if_neg (by omega), if_neg (by omega), if_neg (by omega)]) (fun _ _ _ => rfl)
  clear hσa
  obtain ⟨ada, hada⟩ : ∃ ada : Nat → Nat → Nat, ada = fun k i => if k = 30 ∧ i = S then mm.2.1 else if k = 1024 ∧ i = S then mm.2.1 + 1 else ad k i := ⟨_, rfl⟩
  have a30 : ada 30 S = mm.2.1 := by rw [hada]; simp
  have a1024 : ada 1024 S = mm.2.1 + 1 := by rw [hada]; simp
  have aold : ∀ k i, ¬ nse S k i → ada k i = ad k i := fun k i z => by
    unfold nse at z
    rw [hada]
    simp only
    rw [if_neg (by omega), if_neg (by omega)]
  clear hada
  have lt : ∀ k i, ru σ k i → ad k i < mm.2.1 := fun k i hu => (h.2.2.1 k i hu).2
  have rs : ∀ k i, ru σa k i → ru σ k i := fun k i hu => ru_of (fun i => by rw [af 42 (by omega) (by omega) (by omega)]) (fun i => by rw [af 40 (by omega) (by omega) (by omega)]) hu
  have u42 : ∀ i, uS σa 42 3 (S + 1) 42 i = if i = 3 then S + 1 else σ 42 i := fun i => by
    by_cases z : i = 3
    · rw [z, uS_s, if_pos rfl]
    · rw [uS_i z, if_neg z, af 42 (by omega) (by omega) (by omega)]
  have rt : ∀ k i, ru (uS σa 42 3 (S + 1)) k i → nse S k i ∨ (ru σa k i ∧ ¬ nse S k i) := by
    intro k i hu
    unfold nse
    by_cases z : k = 30 ∨ k = 1024
    · have hc' : i < uS σa 42 3 (S + 1) 42 3 := by
        rcases z with rfl | rfl
        · exact hu.1
        · exact hu.1
      rw [uS_s] at hc'
      by_cases w : i = S
      · exact Or.inl ⟨w, z⟩
      · refine Or.inr ⟨⟨?_, fun z => by omega⟩, fun y => w y.1⟩
        have : i < σa 42 3 := by
          rw [af 42 (by omega) (by omega) (by omega)]
          omega
        rcases z with rfl | rfl
        · exact this
        · exact this
    · right
      refine ⟨⟨?_, fun y => ?_⟩, fun y => z y.2⟩
      · rw [← rcn_e (σ' := uS σa 42 3 (S + 1)) (fun q => z (Or.inl q)) (fun q => z (Or.inr q)) (uS_i (by omega)) (uS_i (by omega)) (uS_i (by omega))]
        exact hu.1
      · have := hu.2 y
        rw [uS_f (by omega)] at this
        exact this
  refine ⟨uS σa 42 3 (S + 1), ada, ha.adopt (q0 := mm.2.1) h.n0le (fun k i hu => lt k i (rs k i hu)) (fun k i hu => ?_) (fun k i k' i' hu hu' hq he => ?_) (fun k i c hu hu' hg => ?_), fun f f1 f2 f3 f4 => by rw [uS_g f1, af f f2 f3 f4], u42, fun i => by rw [uS_f (by omega), s14], fun i => by rw [uS_f (by omega), s15], fun e j hj => by rw [uS_f (by omega), s24 e j hj], a30, aold⟩
  · rcases rt k i hu with z | ⟨z1, z2⟩
    · right
      unfold nse at z
      rcases z with ⟨rfl, rfl | rfl⟩
      · rw [a30]
        refine ⟨by omega, by omega, _, c0, ?_⟩
        unfold rgd
        rw [if_pos (by omega)]
        show _ = _
        rw [uS_f (by omega), uS_f (by omega), s14, s15, if_pos rfl, if_pos rfl, a1024]
      · rw [a1024]
        refine ⟨by omega, by omega, _, c1, ?_⟩
        unfold rgd
        rw [if_neg (by omega), if_pos (by omega)]
        exact ⟨_, rfl, fun j hj => by
          have hj' : j < 8 := hj
          rw [show (1024 : Nat) - 1000 = 24 from rfl, show rln 1024 = 8 from rfl, uS_f (by omega), s24 i j hj', if_pos rfl, hg j hj']⟩
    · exact Or.inl ⟨z1, aold k i z2⟩
  · have hn1 : nse S k i := by
      rcases rt k i hu with z | ⟨z1, z2⟩
      · exact z
      · have := lt k i (rs k i z1)
        rw [aold k i z2] at hq
        omega
    have hn2 : nse S k' i' := by
      rcases rt k' i' hu' with z | ⟨z1, z2⟩
      · exact z
      · have := lt k' i' (rs k' i' z1)
        rw [aold k' i' z2] at he
        omega
    unfold nse at hn1 hn2
    rcases hn1 with ⟨rfl, rfl | rfl⟩ <;> rcases hn2 with ⟨rfl, rfl | rfl⟩ <;> first | exact ⟨rfl, rfl⟩ | (exfalso; omega)
  · refine rgd_ad (fun f j hf => by rw [uS_f (by omega)]) (fun _ _ _ => rfl) (fun k' i' hr => aold k' i' ?_) (fun b1 b2 j hj => by
      rw [uS_f (by
        have := ru_ar b1 b2 hu
        unfold rar at this
        omega)]) (fun _ _ _ => rfl) hg
    exact rfs_e hu (by rw [af 42 (by omega) (by omega) (by omega)]; exact e10) (by rw [af 40 (by omega) (by omega) (by omega)]; exact e11) (fun j hj => by rw [af 41 (by omega) (by omega) (by omega)]; exact e15 j hj) hr
theorem Inv.settle (hI : Inv σ τ) {S s c t : Nat} {n G : Nat → Nat} {x : Int64} (hS0 : σ 503 0 = S) (hS : S < 40) (hs : s < σ 502 0) (hc : c < 128) (ht : t < 8) (hn : ∀ u, u < 8 → n u < 10000) (hnt : n t ≠ 0) (hex : ∀ u, u < 8 → n u ≠ 0 → ∃ k, k < σ 501 0 ∧ σ 4 k = u ∧ σ 6 k = n u) (hG : ∀ k, k < σ 501 0 → G k ≤ 1 ∧ (G k = 1 ↔ n (σ 4 k) = σ 6 k)) (hx' : ∀ e, bit x e ↔ bit (τ 1 (2 * s)) e ∨ e = S)
    (f : ∀ g, g ≠ 42 → g ≠ 40 → g ≠ 41 → g ≠ 14 → g ≠ 15 → g ≠ 24 → g ≠ 25 → g ≠ 529 → g ≠ 519 → g ≠ 520 → g ≠ 521 → g ≠ 522 → g ≠ 517 → g ≠ 503 → σ' g = σ g)
    (f42 : ∀ i, σ' 42 i = if i = 3 then S + 1 else σ 42 i) (f40 : ∀ i, σ' 40 i = if i = 2 then S + 1 else σ 40 i) (f41 : ∀ i, σ' 41 i = if i = 2000 + S then S else σ 41 i) (f14 : ∀ i, σ' 14 i = if i = S then c else σ 14 i) (f15 : ∀ i, σ' 15 i = if i = S then t else σ 15 i) (f24 : ∀ e j, j < 8 → σ' 24 (e * 8 + j) = if e = S then n j else σ 24 (e * 8 + j))
    (f519 : ∀ i, σ' 519 i = if i = S then c / 8 else σ 519 i) (f520 : ∀ i, σ' 520 i = if i = S then c % 8 else σ 520 i) (f521 : ∀ i, σ' 521 i = if i = S then t else σ 521 i) (f522 : ∀ j, σ' 522 j = if S * 200 ≤ j ∧ j < S * 200 + σ 501 0 then G (j - S * 200) else σ 522 j) (f517 : ∀ j, σ' 517 j = if j = s * 40 + S then 1 else σ 517 j) (f503 : σ' 503 0 = S + 1)
    (d : ∀ g, g ≠ 1 → g ≠ 22 → τ' g = τ g) (d1 : ∀ h, τ' 1 h = if h = 2 * s then x else τ 1 h) : Inv σ' τ' := by
  obtain ⟨h0, h1, h2, h3, h4, h5, h6, h7, h8, h9⟩ := id hI
  have F : ∀ g, (g < 14 ∨ (15 < g ∧ g < 24) ∨ g = 26 ∨ (500 ≤ g ∧ g ≤ 502) ∨ (503 < g ∧ g < 517) ∨ g = 518 ∨ (522 < g ∧ g < 529)) → σ' g = σ g := fun g hg => f g (by omega) (by omega) (by omega) (by omega) (by omega) (by omega) (by omega) (by omega) (by omega) (by omega) (by omega) (by omega) (by omega) (by omega)
  have f500 := F 500 (by omega)
  have f501 := F 501 (by omega)
  have f502 := F 502 (by omega)
  have f4 := F 4 (by omega)
  have f5 := F 5 (by omega)
  have f6 := F 6 (by omega)
  have e6 := h0.2.2.2.2.2.1
  have e3 := h0.2.2.1
  have e9 := h0.2.2.2.2.2.2.2.2.1
  have t40 : ∀ t, σ' 40 (3 + t) = σ 40 (3 + t) := fun t => by rw [f40, if_neg (by omega)]
  have t41 : ∀ t j, j < 1000 → σ' 41 ((3 + t) * 1000 + j) = σ 41 ((3 + t) * 1000 + j) := fun t j hj => by rw [f41, if_neg (by omega)]
  refine ⟨?_, h1.of (fun g hg => F g (by omega)) (fun g hg => d g (by omega) (by omega)), h2.of (fun g hg => F g (by omega)), h3.of (fun g hg => F g (by omega)), h4.of (fun g hg => F g (by omega)) (fun g hg => d g (by omega) (by omega)), ?_, h6.of (fun g hg => F g (by omega)), ?_, ?_, h9.of (fun g hg => F g (by omega))⟩
  · obtain ⟨e1, e2, e3, e4, e5, e6, e7, e8, e9, e10, e11, e12, e13, e14, e15⟩ := h0
    unfold I0
    rw [F 1 (by omega), f501, f502, f503, f500, f42, f42, f42, f42, f40, f40, f40]
    simp only [if_true, if_neg (show ¬ (0 : Nat) = 3 by omega), if_neg (show ¬ (1 : Nat) = 3 by omega), if_neg (show ¬ (2 : Nat) = 3 by omega), if_neg (show ¬ (0 : Nat) = 2 by omega), if_neg (show ¬ (1 : Nat) = 2 by omega)]
    refine ⟨e1, e2, e3, e4, e5, e6, e7, e8, e9, trivial, trivial, by omega, fun j hj => ?_, fun j hj => ?_, fun j hj => ?_⟩
    · rw [f41, if_neg (by omega)]
      exact e13 j hj
    · rw [f41, if_neg (by omega)]
      exact e14 j hj
    · rw [f41]
      split
      · omega
      · exact e15 j (by omega)
  · obtain ⟨a1, a2, a3, a4, a5, a6, a7⟩ := h5
    unfold I5
    rw [f4, f5, f6, f501, f500]
    refine ⟨fun k hk => by rw [t40]; exact a1 k hk, fun t o ho => ?_, fun t ht => by rw [t40]; exact a3 t ht, fun t => by rw [t40]; exact a4 t, fun t j hj => ?_, fun t j i hij hj => ?_, fun k hk => ?_⟩
    · rw [t40] at ho
      exact a2 t o ho
    · rw [t40] at hj
      have := a4 t
      rw [t41 t j (by omega)]
      exact a5 t j hj
    · rw [t40] at hj
      have := a4 t
      rw [t41 t i (by omega), t41 t j (by omega)]
      exact a6 t j i hij hj
    · obtain ⟨j, j1, j2⟩ := a7 k hk
      have := a4 (σ 4 k)
      exact ⟨j, by rw [t40]; exact j1, by rw [t41 _ j (by omega)]; exact j2⟩
  · unfold I7
    rw [f4, f5, f501, f502, F 23 (by omega), F 516 (by omega)]
    exact ⟨fun h t ht => by rw [t40]; exact h7.1 h t ht, h7.2⟩
  · obtain ⟨w1, w2, w3, w4, w5⟩ := h8
    rw [hS0] at w1 w4 w5
    unfold I8
    rw [f503, f502, f501, f4, f6]
    refine ⟨fun h e he => ?_, fun h hh => ?_, fun r e hr he => ?_, fun e he => ?_, fun e k he hk => ?_⟩
    · rw [d1] at he
      by_cases z : h = 2 * s
      · rw [if_pos z] at he
        rcases (hx' e).mp he with y | y
        · have := w1 _ e y
          omega
        · omega
      · rw [if_neg z] at he
        have := w1 h e he
        omega
    · rw [d1, if_neg (by omega)]
      exact w2 h hh
    · rw [f517, d1]
      by_cases z : r * 40 + e = s * 40 + S
      · obtain ⟨y1, y2⟩ := r_seg (n := 40) he hS z
        rw [if_pos z, y1, hx_lo (by omega), if_pos rfl, y2]
        exact ⟨Nat.le_refl _, fun _ => (hx' S).mpr (Or.inr rfl), fun _ => rfl⟩
      · rw [if_neg z]
        by_cases y : hx r = 2 * s
        · have hr' : r = s := by
            unfold hx at y
            split at y <;> omega
          rw [if_pos y, hx' e]
          have := w3 r e hr he
          rw [y] at this
          refine ⟨this.1, fun q => Or.inl (this.2.mp q), fun q => ?_⟩
          rcases q with q | q
          · exact this.2.mpr q
          · exfalso
            rw [hr', q] at z
            exact z rfl
        · rw [if_neg y]
          exact w3 r e hr he
    · by_cases z : e = S
      · rw [z, f14, if_pos rfl, f15, if_pos rfl, f519, if_pos rfl, f520, if_pos rfl, f521, if_pos rfl, f24 S t ht, if_pos rfl]
        refine ⟨by omega, by omega, by omega, rfl, ht, hnt, fun u hu => ?_, fun u hu hz => ?_⟩
        · rw [f24 S u hu, if_pos rfl]
          exact hn u hu
        · rw [f24 S u hu, if_pos rfl] at hz ⊢
          exact hex u hu hz
      · obtain ⟨b1, b2, b3, b4, b5, b6, b7, b8⟩ := w4 e (by omega)
        rw [f14, if_neg z, f15, if_neg z, f519, if_neg z, f520, if_neg z, f521, if_neg z, f24 e _ b5, if_neg z]
        refine ⟨b1, b2, b3, b4, b5, b6, fun u hu => ?_, fun u hu hz => ?_⟩
        · rw [f24 e u hu, if_neg z]
          exact b7 u hu
        · rw [f24 e u hu, if_neg z] at hz ⊢
          exact b8 u hu hz
    · rw [f522]
      by_cases z : e = S
      · subst z
        by_cases y : k < σ 501 0
        · have hw := (h4.1 k y).2.1
          rw [if_pos (by omega), Nat.add_sub_cancel_left, f24 e (σ 4 k) (by omega), if_pos rfl]
          obtain ⟨g1, g2⟩ := hG k y
          by_cases q : σ 6 k = n (σ 4 k)
          · rw [if_pos ⟨by omega, y, q⟩]
            exact g2.mpr q.symm
          · rw [if_neg (fun w => q w.2.2)]
            have : ¬ G k = 1 := fun w => q (g2.mp w).symm
            omega
        · rw [if_neg (by omega), if_neg (fun w => y w.2.1), w5 e k he hk, if_neg (fun w => y w.2.1)]
      · rw [if_neg (by omega), w5 e k he hk]
        by_cases y : k < σ 501 0
        · have hw := (h4.1 k y).2.1
          rw [f24 e (σ 4 k) (by omega), if_neg z]
          simp only [show e < S ↔ e < S + 1 by omega]
        · rw [if_neg (fun w => y w.2.1), if_neg (fun w => y w.2.1)]
end SL
