/-! a new telling's cell -/
section TG
variable {n0 : Nat} {σ σ' : Nat → Nat → Nat} {τ τ' : Nat → Nat → Int64} {ad ad' : Nat → Nat → Nat} {mm mm' : gM}
/-- what no role has yet may be anything -/
theorem Rep.junk (h : Rep n0 σ τ ad mm) (hs : ∀ f i, ¬ (4 ≤ f ∧ f ≤ 9 ∧ σ 42 0 ≤ i) → ¬ ((f = 14 ∨ f = 15) ∧ σ 42 3 ≤ i) → ¬ (f = 24 ∧ σ 42 3 * 8 ≤ i) → σ' f i = σ f i) (ht : ∀ f i, ¬ (f = 0 ∧ σ 42 0 ≤ i) → τ' f i = τ f i) : Rep n0 σ' τ' ad mm := by
  have sf : ∀ f i, ¬ (4 ≤ f ∧ f ≤ 9) → f ≠ 14 → f ≠ 15 → f ≠ 24 → σ' f i = σ f i := fun f i z1 z2 z3 z4 => hs f i (by omega) (by omega) (by omega)
  obtain ⟨h1, h2, h3, h4⟩ := h
  have hru : ∀ k i, ru σ' k i → ru σ k i := fun k i hu => ru_of (fun i => sf 42 i (by omega) (by omega) (by omega) (by omega)) (fun i => sf 40 i (by omega) (by omega) (by omega) (by omega)) hu
  refine ⟨fun k i hu => ?_, fun k i k' i' ha hb => h2 k i k' i' (hru _ _ ha) (hru _ _ hb), fun k i ha => h3 k i (hru _ _ ha), h4⟩
  have hu' := hru k i hu
  obtain ⟨c, c1, c2⟩ := h1 k i hu'
  refine ⟨c, c1, ?_⟩
  unfold rgd at c2 ⊢
  have hc := hu'.1
  by_cases a1 : k < 1000
  · rw [if_pos a1] at c2 ⊢
    unfold rgo at c2 ⊢
    split at c2
    · rw [sf 1 _ (by omega) (by omega) (by omega) (by omega)]; exact c2
    · rw [sf 40 _ (by omega) (by omega) (by omega) (by omega)]; exact c2
    · obtain ⟨n, g, b1, b2, b3, b4, b5⟩ := c2
      refine ⟨n, g, b1, by rw [sf 40 _ (by omega) (by omega) (by omega) (by omega)]; exact b2, b3, b4, fun j hj => ?_⟩
      rw [sf 40 _ (by omega) (by omega) (by omega) (by omega)] at hj
      rw [sf 41 _ (by omega) (by omega) (by omega) (by omega)]
      exact b5 j hj
    · obtain ⟨g, b1, b2⟩ := c2
      exact ⟨g, b1, fun j hj => by rw [sf 16 _ (by omega) (by omega) (by omega) (by omega)]; exact b2 j hj⟩
    · have hc' : i < σ 42 0 := hc
      rw [hs 4 i (by omega) (by omega) (by omega), hs 5 i (by omega) (by omega) (by omega), hs 6 i (by omega) (by omega) (by omega), hs 7 i (by omega) (by omega) (by omega), hs 8 i (by omega) (by omega) (by omega), hs 9 i (by omega) (by omega) (by omega), ht 0 i (by omega)]
      exact c2
    · rw [sf 10 _ (by omega) (by omega) (by omega) (by omega)]; exact c2
    · rw [sf 11 _ (by omega) (by omega) (by omega) (by omega)]; exact c2
    · rw [sf 12 _ (by omega) (by omega) (by omega) (by omega)]; exact c2
    · exact c2
    · rw [sf 13 _ (by omega) (by omega) (by omega) (by omega)]; exact c2
    · rw [ht 1 i (by omega)]; exact c2
    · have hc' : i < σ 42 3 := hc
      rw [hs 14 i (by omega) (by omega) (by omega), hs 15 i (by omega) (by omega) (by omega)]
      exact c2
    · rw [sf 500 _ (by omega) (by omega) (by omega) (by omega), sf 501 _ (by omega) (by omega) (by omega) (by omega), sf 502 _ (by omega) (by omega) (by omega) (by omega), sf 503 _ (by omega) (by omega) (by omega) (by omega)]
      exact c2
  · rw [if_neg a1] at c2 ⊢
    by_cases a2 : k < 2000
    · rw [if_pos a2] at c2 ⊢
      obtain ⟨q, e, hq⟩ := c2
      refine ⟨q, e, fun j hj => ?_⟩
      by_cases e24 : k = 1024
      · subst e24
        have hc' : i < σ 42 3 := hc
        have hj' : j < 8 := hj
        rw [hs (1024 - 1000) (i * rln 1024 + j) (by omega) (by omega) (by
          show ¬ (24 = 24 ∧ σ 42 3 * 8 ≤ i * 8 + j)
          omega)]
        exact hq j hj
      · have hr := ru_ar (by omega) a2 hu'
        unfold rar at hr
        rw [sf _ _ (by omega) (by omega) (by omega) (by omega)]
        exact hq j hj
    · rw [if_neg a2] at c2 ⊢
      have hr := ru_al (by omega) hu'
      obtain ⟨q, e, hq⟩ := c2
      exact ⟨q, e, fun j hj => by rw [ht _ _ (by omega)]; exact hq j hj⟩
theorem rfs_k {k i k' i' : Nat} (hu : ru σ k i) (hL : ∀ l j, 3 ≤ l → l < 3 + σ 42 1 → j < σ 40 l → σ 41 (l * 1000 + j) < σ 42 0) (h16 : ∀ j, j < 128 → σ 16 j ≤ σ 42 0) (h9 : ∀ j, j < σ 42 0 → σ 9 j ≤ σ 42 0) (hr : rfs σ k i k' i') : ¬ (k' = 10 ∧ i' = σ 42 0) := by
  intro hn
  have hc := hu.1
  clear hu
  unfold rfs at hr
  split at hr
  · omega
  · omega
  · obtain ⟨r1, j, r2, r3⟩ := hr
    have hc' : i < 3 + σ 42 1 := hc
    unfold rek at r1
    split at r1
    · omega
    · omega
    · omega
    · next y0 y1 y2 =>
      have z0 : i ≠ 0 := fun e => y0 e
      have z1 : i ≠ 1 := fun e => y1 e
      have z2 : i ≠ 2 := fun e => y2 e
      have := hL i j (by omega) hc' r2
      omega
  · obtain ⟨r1, j, r2, r3⟩ := hr
    have := h16 j r2
    omega
  · have hc' : i < σ 42 0 := hc
    have := h9 i hc'
    omega
  · omega
  · omega
  · omega
  · omega
  · omega
  · omega
  · omega
  · next a0 a1 a2 a3 a10 a11 a12 a16 a17 a20 a21 a30 =>
    clear a0 a1 a2 a3 a10 a11 a12 a16 a17 a20 a21 a30 hc hL h16 h9
    omega
theorem rcn_k {k : Nat} (hk : k ≠ 10) (e1 : σ' 42 1 = σ 42 1) (e2 : σ' 42 2 = σ 42 2) (e3 : σ' 42 3 = σ 42 3) : rcn σ' k = rcn σ k := by
  unfold rcn
  split <;> first | rfl | omega
theorem Rep.telling (h : Rep n0 σ τ ad mm) (hI : Inv σ τ) (h2 : Rep n0 σ τ ad mm') (hst : mm'.2.2.2 = mm.2.2.2) (hn : mm.2.1 + 1 ≤ mm'.2.1) {t o n c d : Nat} {v : Int64} (hc : c < 128)
    (c0 : mm'.1 mm.2.1 = some (.inr (7, [.int (nI t), .int (nI o), .int (nI n), .int (nI c), .long v, .int (nI d), va_rf (rop (σ 16 c) (ad 10))]))) :
    ∃ (σ' ad' : Nat → Nat → Nat) (τ' : Nat → Nat → Int64), Rep n0 σ' τ' ad' mm' ∧ (∀ f, f ≠ 42 → ¬ (4 ≤ f ∧ f ≤ 9) → σ' f = σ f) ∧ (∀ i, σ' 42 i = if i = 0 then σ 501 0 + 1 else σ 42 i) ∧ (∀ i, σ' 4 i = if i = σ 501 0 then t else σ 4 i) ∧ (∀ i, σ' 5 i = if i = σ 501 0 then o else σ 5 i) ∧ (∀ i, σ' 6 i = if i = σ 501 0 then n else σ 6 i) ∧ (∀ i, σ' 7 i = if i = σ 501 0 then c else σ 7 i) ∧ (∀ i, σ' 8 i = if i = σ 501 0 then d else σ 8 i) ∧ (∀ i, σ' 9 i = if i = σ 501 0 then σ 16 c else σ 9 i) ∧ (∀ f, f ≠ 0 → τ' f = τ f) ∧ (∀ i, τ' 0 i = if i = σ 501 0 then v else τ 0 i) ∧ ad' 10 (σ 501 0) = mm.2.1 ∧ (∀ k i, ¬ (k = 10 ∧ i = σ 501 0) → ad' k i = ad k i) := by
  obtain ⟨h0, h1, h2', h3, h4, h5, h6, h7, h8, h9⟩ := id hI
  obtain ⟨e1, e2, e3, e4, e5, e6, e7, e8, e9, e10, e11, e12, e13, e14, e15⟩ := id h0
  obtain ⟨N, hN⟩ : ∃ N, N = σ 501 0 := ⟨_, rfl⟩
  rw [← hN]
  obtain ⟨σa, hσa⟩ : ∃ σa : Nat → Nat → Nat, σa = fun g j => if j = N ∧ 4 ≤ g ∧ g ≤ 9 then (if g = 4 then t else if g = 5 then o else if g = 6 then n else if g = 7 then c else if g = 8 then d else σ 16 c) else σ g j := ⟨_, rfl⟩
  have ao : ∀ g j, ¬ (j = N ∧ 4 ≤ g ∧ g ≤ 9) → σa g j = σ g j := fun g j z => by rw [hσa]; exact if_neg z
  have af : ∀ g, ¬ (4 ≤ g ∧ g ≤ 9) → σa g = σ g := fun g z => funext (fun j => ao g j (fun w => z w.2))
  have s4 : ∀ i, σa 4 i = if i = N then t else σ 4 i := fun i => by rw [hσa]; simp
  have s5 : ∀ i, σa 5 i = if i = N then o else σ 5 i := fun i => by rw [hσa]; simp
  have s6 : ∀ i, σa 6 i = if i = N then n else σ 6 i := fun i => by rw [hσa]; simp
  have s7 : ∀ i, σa 7 i = if i = N then c else σ 7 i := fun i => by rw [hσa]; simp
  have s8 : ∀ i, σa 8 i = if i = N then d else σ 8 i := fun i => by rw [hσa]; simp
  have s9 : ∀ i, σa 9 i = if i = N then σ 16 c else σ 9 i := fun i => by rw [hσa]; simp
  have ha : Rep n0 σa (uT τ 0 N v) ad mm' := h2.junk (fun f i z1 z2 z3 => ao f i (fun w => z1 (by omega))) (fun f i z => by
    by_cases w : i = N
    · rw [uT_f (by omega)]
    · rw [uT_i w])
  clear hσa
  obtain ⟨ada, hada⟩ : ∃ ada : Nat → Nat → Nat, ada = fun k i => if k = 10 ∧ i = N then mm.2.1 else ad k i := ⟨_, rfl⟩
  have aN : ada 10 N = mm.2.1 := by rw [hada]; simp
  have aold : ∀ k i, ¬ (k = 10 ∧ i = N) → ada k i = ad k i := fun k i z => by rw [hada]; exact if_neg z
  clear hada
  have lt : ∀ k i, ru σ k i → ad k i < mm.2.1 := fun k i hu => (h.2.2.1 k i hu).2
  have rs : ∀ k i, ru σa k i → ru σ k i := fun k i hu => ru_of (fun i => by rw [af 42 (by omega)]) (fun i => by rw [af 40 (by omega)]) hu
  have u42 : ∀ i, uS σa 42 0 (N + 1) 42 i = if i = 0 then N + 1 else σ 42 i := fun i => by
    by_cases z : i = 0
    · rw [z, uS_s, if_pos rfl]
    · rw [uS_i z, if_neg z, af 42 (by omega)]
  have rt : ∀ k i, ru (uS σa 42 0 (N + 1)) k i → (k = 10 ∧ i = N) ∨ (ru σa k i ∧ ¬ (k = 10 ∧ i = N)) := by
    intro k i hu
    by_cases z : k = 10
    · subst z
      have hc' : i < uS σa 42 0 (N + 1) 42 0 := hu.1
      rw [uS_s] at hc'
      by_cases w : i = N
      · exact Or.inl ⟨rfl, w⟩
      · refine Or.inr ⟨⟨?_, fun z => by omega⟩, fun y => w y.2⟩
        show i < σa 42 0
        rw [af 42 (by omega)]
        omega
    · right
      refine ⟨⟨?_, fun y => ?_⟩, fun y => z y.1⟩
      · rw [← rcn_k (σ' := uS σa 42 0 (N + 1)) z (uS_i (by omega)) (uS_i (by omega)) (uS_i (by omega))]
        exact hu.1
      · have := hu.2 y
        rw [uS_f (by omega)] at this
        exact this
  refine ⟨uS σa 42 0 (N + 1), ada, uT τ 0 N v, ha.adopt (q0 := mm.2.1) h.n0le (fun k i hu => lt k i (rs k i hu)) (fun k i hu => ?_) (fun k i k' i' hu hu' hq he => ?_) (fun k i c hu hu' hg => ?_), fun f f1 f2 => by rw [uS_g f1, af f f2], u42, fun i => by rw [uS_f (by omega), s4], fun i => by rw [uS_f (by omega), s5], fun i => by rw [uS_f (by omega), s6], fun i => by rw [uS_f (by omega), s7], fun i => by rw [uS_f (by omega), s8], fun i => by rw [uS_f (by omega), s9], fun f hf => uT_g hf, fun i => ?_, aN, aold⟩
  · rcases rt k i hu with ⟨rfl, rfl⟩ | ⟨z1, z2⟩
    · right
      rw [aN]
      refine ⟨by omega, by omega, _, c0, ?_⟩
      unfold rgd
      rw [if_pos (by omega)]
      show _ = _
      rw [uS_f (by omega), uS_f (by omega), uS_f (by omega), uS_f (by omega), uS_f (by omega), uS_f (by omega), s4, s5, s6, s7, s8, s9, uT_s, if_pos rfl, if_pos rfl, if_pos rfl, if_pos rfl, if_pos rfl, if_pos rfl, rop_ad (f := ad 10) (f' := ada 10) (fun i' hi' => aold 10 i' (fun w => by
        have := (h6.1 c).1
        omega))]
    · exact Or.inl ⟨z1, aold k i z2⟩
  · have hn1 : k = 10 ∧ i = N := by
      rcases rt k i hu with z | ⟨z1, z2⟩
      · exact z
      · have := lt k i (rs k i z1)
        rw [aold k i z2] at hq
        omega
    have hn2 : k' = 10 ∧ i' = N := by
      rcases rt k' i' hu' with z | ⟨z1, z2⟩
      · exact z
      · have := lt k' i' (rs k' i' z1)
        rw [aold k' i' z2] at he
        omega
    omega
  · refine rgd_ad (fun f j hf => by rw [uS_f (by omega)]) (fun _ _ _ => rfl) (fun k' i' hr => aold k' i' (fun hn => ?_)) (fun b1 b2 j hj => by
      rw [uS_f (by
        have := ru_ar b1 b2 hu
        unfold rar at this
        omega)]) (fun _ _ _ => rfl) hg
    refine rfs_k hu (fun l j l1 l2 l3 => ?_) (fun j hj => ?_) (fun j hj => ?_) hr ?_
    · rw [af 40 (by omega)] at l3
      rw [af 41 (by omega), af 42 (by omega)]
      have := (h5.2.2.2.2.1 (l - 3) j (by rw [show 3 + (l - 3) = l by omega]; exact l3)).1
      rw [show 3 + (l - 3) = l by omega] at this
      omega
    · rw [af 16 (by omega), af 42 (by omega)]
      have := (h6.1 j).1
      omega
    · rw [af 42 (by omega)] at hj ⊢
      rw [s9]
      rw [if_neg (by omega)]
      have := (h6.2 j (by omega)).1
      omega
    · rw [af 42 (by omega)]
      omega
  · by_cases z : i = N
    · rw [z, uT_s, if_pos rfl]
    · rw [uT_i z, if_neg z]
/-- the newest of a cell -/
theorem Rep.w16 (h : Rep n0 σ τ ad mm) {c e : Nat} (hc : c < 128) (he : e < σ 42 0) : ∃ mm' : gM, gsR 3 [7] (some (ad 3 0)) (nI c) (some (ad 10 e)) mm = some mm' ∧ mm'.2 = mm.2 ∧ Rep n0 (uS σ 16 c (e + 1)) τ ad mm' := by
  obtain ⟨g, g1, g2⟩ := h.oNew
  refine ⟨_, gsR_eq g1 hc (by omega) (gok_eq (h.oTelling he) (by decide)), rfl, ?_⟩
  refine h.write (k0 := 3) (i0 := 0) ⟨Nat.zero_lt_one, fun z => by cases z⟩ (fun k' i' h' => ru_of (fun i => uS_f (by omega)) (fun i => uS_f (by omega)) h') ?_ ?_
  · unfold rgd
    rw [if_pos (by omega)]
    refine ⟨_, rfl, fun j hj => ?_⟩
    unfold va_up
    by_cases z : j = c
    · rw [z, uS_s]
      simp [rop]
    · rw [uS_i z, ← g2 j hj]
      simp [z]
  · intro k i c' hu hne hg
    have hc := hu.1
    unfold rgd at hg ⊢
    by_cases a1 : k < 1000
    · rw [if_pos a1] at hg ⊢
      unfold rgo at hg ⊢
      split at hg
      · rw [uS_f (by omega)]; exact hg
      · rw [uS_f (by omega)]; exact hg
      · obtain ⟨n, g, b1, b2, b3, b4, b5⟩ := hg
        refine ⟨n, g, b1, by rw [uS_f (by omega)]; exact b2, b3, b4, fun j hj => ?_⟩
        rw [uS_f (by omega)] at hj
        rw [uS_f (by omega)]
        exact b5 j hj
      · have hc' : i < 1 := hc
        omega
      · rw [uS_f (by omega), uS_f (by omega), uS_f (by omega), uS_f (by omega), uS_f (by omega), uS_f (by omega)]; exact hg
      · rw [uS_f (by omega)]; exact hg
      · rw [uS_f (by omega)]; exact hg
      · rw [uS_f (by omega)]; exact hg
      · exact hg
      · rw [uS_f (by omega)]; exact hg
      · exact hg
      · rw [uS_f (by omega), uS_f (by omega)]; exact hg
      · rw [uS_f (by omega), uS_f (by omega), uS_f (by omega), uS_f (by omega)]; exact hg
    · rw [if_neg a1] at hg ⊢
      by_cases a2 : k < 2000
      · rw [if_pos a2] at hg ⊢
        have hr := ru_ar (by omega) a2 hu
        unfold rar at hr
        obtain ⟨q, e, hq⟩ := hg
        exact ⟨q, e, fun j' hj' => by rw [uS_f (by omega)]; exact hq j' hj'⟩
      · rw [if_neg a2] at hg ⊢
        exact hg
end TG
