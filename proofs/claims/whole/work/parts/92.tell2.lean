/-! tell: what holds after a new telling -/
section TH
variable {n0 : Nat} {σ σ' : Nat → Nat → Nat} {τ τ' : Nat → Nat → Int64} {ad ad' : Nat → Nat → Nat} {mm mm' : gM}
theorem I6.tell (h6 : I6 σ) {N c : Nat} (hN : σ 501 0 = N) (f501 : σ' 501 0 = N + 1) (f7 : ∀ i, σ' 7 i = if i = N then c else σ 7 i) (f9 : ∀ i, σ' 9 i = if i = N then σ 16 c else σ 9 i) (f16 : ∀ i, σ' 16 i = if i = c then N + 1 else σ 16 i) : I6 σ' := by
  have o7 : ∀ i, i < N → σ' 7 i = σ 7 i := fun i hi => by rw [f7, if_neg (by omega)]
  have keep : ∀ m c x, m ≤ N → Lst σ m c x → Lst σ' m c x := by
    rintro m c x hm ⟨b1, b2, b3⟩
    refine ⟨b1, fun j j1 j2 => ?_, fun hx => ?_⟩
    · rw [o7 j (by omega)]
      exact b2 j j1 j2
    · rw [o7 _ (by omega)]
      exact b3 hx
  obtain ⟨a1, a2⟩ := h6
  rw [hN] at a1 a2
  refine ⟨fun x => ?_, fun k hk => ?_⟩
  · rw [f501, f16]
    by_cases e : x = c
    · subst e
      rw [if_pos rfl]
      refine ⟨Nat.le_refl _, fun j j1 j2 => by omega, fun _ => ?_⟩
      rw [Nat.add_sub_cancel, f7, if_pos rfl]
    · rw [if_neg e]
      obtain ⟨b1, b2, b3⟩ := keep N x _ (Nat.le_refl _) (a1 x)
      refine ⟨by omega, fun j j1 j2 => ?_, b3⟩
      by_cases w : j = N
      · rw [w, f7, if_pos rfl]
        exact fun y => e y.symm
      · exact b2 j j1 (by omega)
  · rw [f501] at hk
    rw [f7, f9]
    by_cases w : k = N
    · rw [if_pos w, if_pos w, w]
      exact keep N c _ (Nat.le_refl _) (a1 c)
    · rw [if_neg w, if_neg w]
      exact keep k _ _ (by omega) (a2 k (by omega))
theorem I5.tell (h5 : I5 σ) {N t n p : Nat} (hN : σ 501 0 = N) (hN2 : N < 200) (ht : t < σ 500 0) (f500 : σ' 500 0 = σ 500 0) (f501 : σ' 501 0 = N + 1) (f4 : ∀ i, σ' 4 i = if i = N then t else σ 4 i) (f5 : ∀ i, σ' 5 i = if i = N then σ 40 (3 + t) else σ 5 i) (f6 : ∀ i, σ' 6 i = if i = N then n else σ 6 i)
    (f40 : ∀ j, σ' 40 j = if j = 3 + t then σ 40 (3 + t) + 1 else σ 40 j) (f41 : ∀ j, ¬ ((3 + t) * 1000 ≤ j ∧ j < (3 + t) * 1000 + 1000) → σ' 41 j = σ 41 j) (g41 : ∀ j, j ≤ σ 40 (3 + t) → σ' 41 ((3 + t) * 1000 + j) = if j < p then σ 41 ((3 + t) * 1000 + j) else if j = p then N else σ 41 ((3 + t) * 1000 + (j - 1)))
    (hp : p ≤ σ 40 (3 + t)) (p1 : ∀ j, j < p → σ 6 (σ 41 ((3 + t) * 1000 + j)) < n) (p2 : ∀ j, p ≤ j → j < σ 40 (3 + t) → n < σ 6 (σ 41 ((3 + t) * 1000 + j))) : I5 σ' := by
  obtain ⟨a1, a2, a3, a4, a5, a6, a7⟩ := h5
  rw [hN] at a1 a2 a4 a5 a7
  have o4 : ∀ i, i < N → σ' 4 i = σ 4 i := fun i hi => by rw [f4, if_neg (by omega)]
  have o5 : ∀ i, i < N → σ' 5 i = σ 5 i := fun i hi => by rw [f5, if_neg (by omega)]
  have o6 : ∀ i, i < N → σ' 6 i = σ 6 i := fun i hi => by rw [f6, if_neg (by omega)]
  have n4 : σ' 4 N = t := by rw [f4, if_pos rfl]
  have n5 : σ' 5 N = σ 40 (3 + t) := by rw [f5, if_pos rfl]
  have n6 : σ' 6 N = n := by rw [f6, if_pos rfl]
  have o40 : ∀ u, u ≠ t → σ' 40 (3 + u) = σ 40 (3 + u) := fun u hu => by rw [f40, if_neg (by omega)]
  have n40 : σ' 40 (3 + t) = σ 40 (3 + t) + 1 := by rw [f40, if_pos rfl]
  have o41 : ∀ u j, u ≠ t → j < 1000 → σ' 41 ((3 + u) * 1000 + j) = σ 41 ((3 + u) * 1000 + j) := fun u j hu hj => f41 _ (by omega)
  have lt := a4 t
  -- what stands at j of t's new list
  have w : ∀ j, j ≤ σ 40 (3 + t) → (j < p ∧ σ' 41 ((3 + t) * 1000 + j) = σ 41 ((3 + t) * 1000 + j)) ∨ (j = p ∧ σ' 41 ((3 + t) * 1000 + j) = N) ∨ (p < j ∧ σ' 41 ((3 + t) * 1000 + j) = σ 41 ((3 + t) * 1000 + (j - 1))) := by
    intro j hj
    rw [g41 j hj]
    by_cases z1 : j < p
    · rw [if_pos z1]
      exact Or.inl ⟨z1, rfl⟩
    · rw [if_neg z1]
      by_cases z2 : j = p
      · rw [if_pos z2]
        exact Or.inr (Or.inl ⟨z2, rfl⟩)
      · rw [if_neg z2]
        exact Or.inr (Or.inr ⟨by omega, rfl⟩)
  refine ⟨fun k hk => ?_, fun u o ho => ?_, fun u hu => ?_, fun u => ?_, fun u j hj => ?_, fun u j i hij hj => ?_, fun k hk => ?_⟩
  · rw [f501] at hk
    by_cases e : k = N
    · rw [e, n4, n5, n40]
      omega
    · rw [o4 k (by omega), o5 k (by omega)]
      have := a1 k (by omega)
      by_cases y : σ 4 k = t
      · rw [y] at this ⊢
        omega
      · rw [o40 _ y]
        exact this
  · rw [f501]
    by_cases y : u = t
    · subst y
      rw [n40] at ho
      by_cases z : o = σ 40 (3 + u)
      · exact ⟨N, by omega, n4, by rw [n5, z]⟩
      · obtain ⟨k, k1, k2, k3⟩ := a2 u o (by omega)
        exact ⟨k, by omega, by rw [o4 k k1]; exact k2, by rw [o5 k k1]; exact k3⟩
    · rw [o40 _ y] at ho
      obtain ⟨k, k1, k2, k3⟩ := a2 u o ho
      exact ⟨k, by omega, by rw [o4 k k1]; exact k2, by rw [o5 k k1]; exact k3⟩
  · rw [f500] at hu
    rw [o40 u (by omega)]
    exact a3 u hu
  · rw [f501]
    by_cases y : u = t
    · subst y
      rw [n40]
      omega
    · rw [o40 _ y]
      have := a4 u
      omega
  · rw [f501]
    by_cases y : u = t
    · subst y
      rw [n40] at hj
      rcases w j (by omega) with ⟨z1, z2⟩ | ⟨z1, z2⟩ | ⟨z1, z2⟩
      · rw [z2]
        obtain ⟨b1, b2⟩ := a5 u j (by omega)
        exact ⟨by omega, by rw [o4 _ b1]; exact b2⟩
      · rw [z2]
        exact ⟨by omega, n4⟩
      · rw [z2]
        obtain ⟨b1, b2⟩ := a5 u (j - 1) (by omega)
        exact ⟨by omega, by rw [o4 _ b1]; exact b2⟩
    · rw [o40 _ y] at hj
      have := a4 u
      rw [o41 u j y (by omega)]
      obtain ⟨b1, b2⟩ := a5 u j hj
      exact ⟨by omega, by rw [o4 _ b1]; exact b2⟩
  · by_cases y : u = t
    · subst y
      rw [n40] at hj
      have q6 : ∀ j, j < σ 40 (3 + u) → σ' 6 (σ 41 ((3 + u) * 1000 + j)) = σ 6 (σ 41 ((3 + u) * 1000 + j)) := fun j hj => o6 _ (a5 u j hj).1
      rcases w i (by omega) with ⟨x1, x2⟩ | ⟨x1, x2⟩ | ⟨x1, x2⟩ <;> rcases w j (by omega) with ⟨z1, z2⟩ | ⟨z1, z2⟩ | ⟨z1, z2⟩
      · rw [x2, z2, q6 i (by omega), q6 j (by omega)]
        exact a6 u j i hij (by omega)
      · rw [x2, z2, q6 i (by omega), n6]
        exact p1 i x1
      · rw [x2, z2, q6 i (by omega), q6 (j - 1) (by omega)]
        exact a6 u (j - 1) i (by omega) (by omega)
      · omega
      · omega
      · rw [x2, z2, n6, q6 (j - 1) (by omega)]
        exact p2 (j - 1) (by omega) (by omega)
      · omega
      · omega
      · rw [x2, z2, q6 (i - 1) (by omega), q6 (j - 1) (by omega)]
        exact a6 u (j - 1) (i - 1) (by omega) (by omega)
    · rw [o40 _ y] at hj
      have := a4 u
      rw [o41 u j y (by omega), o41 u i y (by omega), o6 _ (a5 u j hj).1, o6 _ (a5 u i (by omega)).1]
      exact a6 u j i hij hj
  · rw [f501] at hk
    by_cases e : k = N
    · refine ⟨p, by rw [e, n4, n40]; omega, ?_⟩
      rw [e, n4]
      rcases w p hp with ⟨z1, z2⟩ | ⟨z1, z2⟩ | ⟨z1, z2⟩
      · omega
      · exact z2
      · omega
    · rw [o4 k (by omega)]
      obtain ⟨j, j1, j2⟩ := a7 k (by omega)
      by_cases y : σ 4 k = t
      · rw [y] at j1 j2 ⊢
        rw [n40]
        by_cases x : j < p
        · refine ⟨j, by omega, ?_⟩
          rw [g41 j (by omega), if_pos x]
          exact j2
        · refine ⟨j + 1, by omega, ?_⟩
          rw [g41 (j + 1) (by omega), if_neg (by omega), if_neg (by omega), Nat.add_sub_cancel]
          exact j2
      · have := a4 (σ 4 k)
        exact ⟨j, by rw [o40 _ y]; exact j1, by rw [o41 _ j y (by omega)]; exact j2⟩
theorem Inv.tell (hI : Inv σ τ) {N t n c d p : Nat} {v : Int64} (hN : σ 501 0 = N) (hN2 : N < 200) (ht : t < σ 500 0) (hn : 1 ≤ n ∧ n ≤ 9999) (hc : c < 128) (hd : d ≤ 100000) (hv : vok v) (hno : ¬ tld σ t n)
    (f : ∀ g, g ≠ 42 → ¬ (4 ≤ g ∧ g ≤ 9) → g ≠ 40 → g ≠ 41 → g ≠ 16 → g ≠ 1 → ¬ (511 ≤ g ∧ g ≤ 515) → g ≠ 501 → σ' g = σ g) (f42 : ∀ i, σ' 42 i = if i = 0 then N + 1 else σ 42 i)
    (f4 : ∀ i, σ' 4 i = if i = N then t else σ 4 i) (f5 : ∀ i, σ' 5 i = if i = N then σ 40 (3 + t) else σ 5 i) (f6 : ∀ i, σ' 6 i = if i = N then n else σ 6 i) (f7 : ∀ i, σ' 7 i = if i = N then c else σ 7 i) (f8 : ∀ i, σ' 8 i = if i = N then d else σ 8 i) (f9 : ∀ i, σ' 9 i = if i = N then σ 16 c else σ 9 i)
    (f40 : ∀ j, σ' 40 j = if j = 3 + t then σ 40 (3 + t) + 1 else σ 40 j) (f41 : ∀ j, ¬ ((3 + t) * 1000 ≤ j ∧ j < (3 + t) * 1000 + 1000) → σ' 41 j = σ 41 j) (g41 : ∀ j, j ≤ σ 40 (3 + t) → σ' 41 ((3 + t) * 1000 + j) = if j < p then σ 41 ((3 + t) * 1000 + j) else if j = p then N else σ 41 ((3 + t) * 1000 + (j - 1)))
    (hp : p ≤ σ 40 (3 + t)) (p1 : ∀ j, j < p → σ 6 (σ 41 ((3 + t) * 1000 + j)) < n) (p2 : ∀ j, p ≤ j → j < σ 40 (3 + t) → n ≤ σ 6 (σ 41 ((3 + t) * 1000 + j)))
    (f16 : ∀ i, σ' 16 i = if i = c then N + 1 else σ 16 i) (f1 : σ' 1 0 = N + 1) (f501 : σ' 501 0 = N + 1) (f511 : ∀ i, σ' 511 i = if i = N then t else σ 511 i) (f512 : ∀ i, σ' 512 i = if i = N then n else σ 512 i) (f513 : ∀ i, σ' 513 i = if i = N then c / 8 else σ 513 i) (f514 : ∀ i, σ' 514 i = if i = N then c % 8 else σ 514 i) (f515 : ∀ i, σ' 515 i = if i = N then d else σ 515 i)
    (dt : ∀ g, g ≠ 0 → g ≠ 510 → τ' g = τ g) (d0 : ∀ i, τ' 0 i = if i = N then v else τ 0 i) (d510 : ∀ i, τ' 510 i = if i = N then v else τ 510 i) : Inv σ' τ' := by
  obtain ⟨h0, h1, h2, h3, h4, h5, h6, h7, h8, h9⟩ := id hI
  have f500 := f 500 (by omega) (by omega) (by omega) (by omega) (by omega) (by omega) (by omega) (by omega)
  have f502 := f 502 (by omega) (by omega) (by omega) (by omega) (by omega) (by omega) (by omega) (by omega)
  have f503 := f 503 (by omega) (by omega) (by omega) (by omega) (by omega) (by omega) (by omega) (by omega)
  have o4 : ∀ i, i < N → σ' 4 i = σ 4 i := fun i hi => by rw [f4, if_neg (by omega)]
  have o5 : ∀ i, i < N → σ' 5 i = σ 5 i := fun i hi => by rw [f5, if_neg (by omega)]
  have o6 : ∀ i, i < N → σ' 6 i = σ 6 i := fun i hi => by rw [f6, if_neg (by omega)]
  have n4 : σ' 4 N = t := by rw [f4, if_pos rfl]
  have n5 : σ' 5 N = σ 40 (3 + t) := by rw [f5, if_pos rfl]
  have n6 : σ' 6 N = n := by rw [f6, if_pos rfl]
  have e6 := h0.2.2.2.2.2.1
  have hno' : ∀ k, k < N → ¬ (σ 4 k = t ∧ σ 6 k = n) := fun k hk w => hno ⟨k, by omega, w.1, w.2⟩
  have tl : ∀ u m, tld σ u m → tld σ' u m := by
    rintro u m ⟨k, k1, k2, k3⟩
    rw [hN] at k1
    exact ⟨k, by omega, by rw [o4 k k1]; exact k2, by rw [o6 k k1]; exact k3⟩
  refine ⟨?_, h1.of (fun g hg => f g (by omega) (by omega) (by omega) (by omega) (by omega) (by omega) (by omega) (by omega)) (fun g hg => dt g (by omega) (by omega)), h2.of (fun g hg => f g (by omega) (by omega) (by omega) (by omega) (by omega) (by omega) (by omega) (by omega)), h3.of (fun g hg => f g (by omega) (by omega) (by omega) (by omega) (by omega) (by omega) (by omega) (by omega)), ?_, h5.tell (n := n) (p := p) hN hN2 ht (by rw [f500]) f501 f4 f5 f6 f40 f41 g41 hp p1 (fun j j1 j2 => ?_), h6.tell hN f501 f7 f9 f16, ?_, ?_, ?_⟩
  · obtain ⟨e1, e2, e3, e4, e5, e6, e7, e8, e9, e10, e11, e12, e13, e14, e15⟩ := h0
    unfold I0
    rw [f1, f501, f502, f503, f500, f42, f42, f42, f42, f40, f40, f40]
    rw [if_pos rfl, if_neg (show ¬ (1 : Nat) = 0 by omega), if_neg (show ¬ (2 : Nat) = 0 by omega), if_neg (show ¬ (3 : Nat) = 0 by omega), if_neg (show ¬ 0 = 3 + t by omega), if_neg (show ¬ 1 = 3 + t by omega), if_neg (show ¬ 2 = 3 + t by omega)]
    exact ⟨rfl, rfl, by omega, e4, e5, e6, e7, e8, e9, e10, e11, e12, fun j hj => by rw [f41 _ (by omega)]; exact e13 j hj, fun j hj => by rw [f41 _ (by omega)]; exact e14 j hj, fun j hj => by rw [f41 _ (by omega)]; exact e15 j hj⟩
  · refine ⟨fun k hk => ?_, fun k j hk hj q1 q2 => ?_⟩
    · rw [f501] at hk
      rw [f500, f4, f511, f6, f512, f7, f513, f514, f8, f515, d0, d510]
      by_cases e : k = N
      · simp only [if_pos e]
        exact ⟨trivial, ht, trivial, hn.1, hn.2, by omega, by omega, by omega, trivial, hd, trivial, hv⟩
      · simp only [if_neg e]
        exact h4.1 k (by omega)
    · rw [f501] at hk hj
      by_cases e1 : k = N
      · by_cases e2 : j = N
        · omega
        · exfalso
          rw [e1, n4, o4 j (by omega)] at q1
          rw [e1, n6, o6 j (by omega)] at q2
          exact hno' j (by omega) ⟨q1.symm, q2.symm⟩
      · by_cases e2 : j = N
        · exfalso
          rw [e2, n4, o4 k (by omega)] at q1
          rw [e2, n6, o6 k (by omega)] at q2
          exact hno' k (by omega) ⟨q1, q2⟩
        · rw [o4 k (by omega), o4 j (by omega)] at q1
          rw [o6 k (by omega), o6 j (by omega)] at q2
          exact h4.2 k j (by omega) (by omega) q1 q2
  · have := p2 j j1 j2
    obtain ⟨b1, b2⟩ := h5.2.2.2.2.1 t j j2
    rcases Nat.lt_or_ge n (σ 6 (σ 41 ((3 + t) * 1000 + j))) with z | z
    · exact z
    · exact absurd ⟨b2, by omega⟩ (hno' _ (by omega))
  · obtain ⟨a1, a2, a3⟩ := h7
    unfold I7
    rw [f502, f501, f 23 (by omega) (by omega) (by omega) (by omega) (by omega) (by omega) (by omega) (by omega), f 516 (by omega) (by omega) (by omega) (by omega) (by omega) (by omega) (by omega) (by omega)]
    refine ⟨fun h u hu => ?_, a2, fun r k hr hk => ?_⟩
    · have := a1 h u hu
      rw [f40]
      by_cases e : 3 + u = 3 + t
      · rw [if_pos e]
        rw [e] at this
        omega
      · rw [if_neg e]
        exact this
    · rw [a3 r k hr hk]
      by_cases e : k = N
      · have := a1 (hx r) t (by omega)
        rw [e, n4, n5, if_neg (by omega), if_neg (by omega)]
      · by_cases z : k < N
        · rw [o4 k z, o5 k z, hN]
          simp only [show k < N ↔ k < N + 1 by omega]
        · rw [if_neg (by omega), if_neg (by omega)]
  · obtain ⟨w1, w2, w3, w4, w5⟩ := h8
    unfold I8
    rw [f503, f502, f501, f 14 (by omega) (by omega) (by omega) (by omega) (by omega) (by omega) (by omega) (by omega), f 15 (by omega) (by omega) (by omega) (by omega) (by omega) (by omega) (by omega) (by omega), f 519 (by omega) (by omega) (by omega) (by omega) (by omega) (by omega) (by omega) (by omega), f 520 (by omega) (by omega) (by omega) (by omega) (by omega) (by omega) (by omega) (by omega), f 521 (by omega) (by omega) (by omega) (by omega) (by omega) (by omega) (by omega) (by omega), f 24 (by omega) (by omega) (by omega) (by omega) (by omega) (by omega) (by omega) (by omega), f 522 (by omega) (by omega) (by omega) (by omega) (by omega) (by omega) (by omega) (by omega), f 517 (by omega) (by omega) (by omega) (by omega) (by omega) (by omega) (by omega) (by omega), dt 1 (by omega) (by omega)]
    refine ⟨w1, w2, w3, fun e he => ?_, fun e k he hk => ?_⟩
    · obtain ⟨b1, b2, b3, b4, b5, b6, b7, b8⟩ := w4 e he
      refine ⟨b1, b2, b3, b4, b5, b6, b7, fun u hu hz => ?_⟩
      obtain ⟨k, k1, k2, k3⟩ := b8 u hu hz
      exact ⟨k, by omega, by rw [o4 k (by omega)]; exact k2, by rw [o6 k (by omega)]; exact k3⟩
    · rw [w5 e k he hk]
      by_cases z : k = N
      · rw [z, n4, n6, if_neg (by omega), if_neg ?_]
        rintro ⟨q1, q2, q3⟩
        obtain ⟨b1, b2, b3, b4, b5, b6, b7, b8⟩ := w4 e q1
        obtain ⟨k, k1, k2, k3⟩ := b8 t (by omega) (by omega)
        exact hno' k (by omega) ⟨k2, by omega⟩
      · by_cases y : k < N
        · rw [o4 k y, o6 k y, hN]
          simp only [show k < N ↔ k < N + 1 by omega]
        · rw [if_neg (by omega), if_neg (by omega)]
  · obtain ⟨b1, b2, b3, b4, b5, b6, b7, b8⟩ := h9
    have g11 := f 11 (by omega) (by omega) (by omega) (by omega) (by omega) (by omega) (by omega) (by omega)
    have g20 := f 20 (by omega) (by omega) (by omega) (by omega) (by omega) (by omega) (by omega) (by omega)
    have g21 := f 21 (by omega) (by omega) (by omega) (by omega) (by omega) (by omega) (by omega) (by omega)
    have g22 := f 22 (by omega) (by omega) (by omega) (by omega) (by omega) (by omega) (by omega) (by omega)
    have g524 := f 524 (by omega) (by omega) (by omega) (by omega) (by omega) (by omega) (by omega) (by omega)
    have g525 := f 525 (by omega) (by omega) (by omega) (by omega) (by omega) (by omega) (by omega) (by omega)
    have g526 := f 526 (by omega) (by omega) (by omega) (by omega) (by omega) (by omega) (by omega) (by omega)
    have g527 := f 527 (by omega) (by omega) (by omega) (by omega) (by omega) (by omega) (by omega) (by omega)
    have eM : ∀ t n, inM σ' t n ↔ inM σ t n := fun t n => by unfold inM; rw [g524, g525, g526]
    have eB : ∀ t n i, inb σ' t n i ↔ inb σ t n i := fun t n i => by unfold inb; rw [g11, g20, g21]
    unfold I9
    simp only [eM, eB]
    rw [g11, g20, g21, g22, g524, g525, g526, g527, f500]
    exact ⟨b1, b2, b3, b4, b5, b6, fun u m i hm hi => ⟨(b7 u m i hm hi).1, fun z => ((b7 u m i hm hi).2 z).imp id (tl u m)⟩, b8⟩
end TH
