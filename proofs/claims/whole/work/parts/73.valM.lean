/-! the value of a cell, in the reference -/
section VM
variable {n0 : Nat} {σ σ' σ'' : Nat → Nat → Nat} {τ τ' τ'' : Nat → Nat → Int64} {ad : Nat → Nat → Nat} {mm : gM}
theorem of_iff (hI : Inv σ τ) {r c : Nat} (hr : r < 24) (D : Int32) (k : Nat) : ofM σ r (nI (c / 8)) (nI (c % 8)) D k ∧ c < 128 ↔ ofc σ (hx r) c D k ∧ c < 128 := by
  obtain ⟨h0, h1, h2, h3, h4, h5, h6, h7, h8, h9⟩ := id hI
  have e3 := h0.2.2.1
  unfold ofM ofc
  constructor
  · rintro ⟨⟨a1, a2, a3, a4, a5⟩, hc⟩
    obtain ⟨b1, b2, b3, b4, b5, b6, b7, b8, b9, b10, b11, b12⟩ := h4.1 k a1
    rw [h7.2.2 r k hr (by omega)] at a2
    have p1 := (nI_eq (by omega) (by omega)).mp a3
    have p2 := (nI_eq (by omega) (by omega)).mp a4
    refine ⟨⟨a1, ?_, by omega, by rw [b9]; exact a5⟩, hc⟩
    rcases Classical.em (σ 5 k < σ 23 (hx r * 8 + σ 4 k)) with z | z
    · exact z
    · rw [if_neg (fun w => z w.2)] at a2
      omega
  · rintro ⟨⟨a1, a2, a3, a4⟩, hc⟩
    obtain ⟨b1, b2, b3, b4, b5, b6, b7, b8, b9, b10, b11, b12⟩ := h4.1 k a1
    refine ⟨⟨a1, ?_, ?_, ?_, by rw [← b9]; exact a4⟩, hc⟩
    · rw [h7.2.2 r k hr (by omega), if_pos ⟨a1, a2⟩]
    · rw [show σ 513 k = c / 8 by omega]
    · rw [show σ 514 k = c % 8 by omega]
/-- how the reference's row of current ones and the numbers by teller go together -/
def Link (σ : Nat → Nat → Nat) (τ : Nat → Nat → Int64) (n : Nat → Nat) (v : Nat → Int64) (g : Nat → Nat) : Prop := (∀ k, k < σ 501 0 → g k ≤ 1 ∧ (g k = 1 ↔ (n (σ 4 k) = σ 6 k))) ∧ (∀ t, t < 8 → n t ≠ 0 → ∃ k, k < σ 501 0 ∧ σ 4 k = t ∧ σ 6 k = n t ∧ τ 0 k = v t)
theorem link (hI : Inv σ τ) {r c : Nat} (hr : r < 24) (hc : c < 128) (D : Int32) {n : Nat → Nat} {v : Nat → Int64} {g : Nat → Nat} (hn : IsCur σ τ (ofc σ (hx r) c D) n v) (hg : CurM σ (ofM σ r (nI (c / 8)) (nI (c % 8)) D) (σ 501 0) g) : Link σ τ n v g := by
  obtain ⟨h0, h1, h2, h3, h4, h5, h6, h7, h8, h9⟩ := id hI
  have e3 := h0.2.2.1
  have e6 := h0.2.2.2.2.2.1
  have oi : ∀ k, ofM σ r (nI (c / 8)) (nI (c % 8)) D k ↔ ofc σ (hx r) c D k := fun k => ⟨fun z => ((of_iff hI hr D k).mp ⟨z, hc⟩).1, fun z => ((of_iff hI hr D k).mpr ⟨z, hc⟩).1⟩
  refine ⟨fun k hk => ⟨(hg k hk).1, ?_⟩, fun t ht hz => ?_⟩
  · obtain ⟨b1, b2, b3, b4, b5, b6, b7, b8, b9, b10, b11, b12⟩ := h4.1 k hk
    rw [(hg k hk).2]
    unfold cuM
    constructor
    · rintro ⟨a1, a2⟩
      have a1' := (oi k).mp a1
      rcases hn (σ 4 k) (by omega) with ⟨z1, z2⟩ | ⟨j, z1, z2, z3, z4, z5⟩
      · exact absurd rfl (z2 k a1')
      · have q1 := z5 k a1' rfl
        have hj : j < σ 501 0 := z1.1
        have q2 := a2 j hj
        obtain ⟨m1, m2, m3, m4, m5, m6, m7, m8⟩ := hI.mb hj
        obtain ⟨n1, n2, n3, n4, n5, n6, n7, n8⟩ := hI.mb hk
        rcases Nat.lt_or_ge (σ 6 k) (σ 6 j) with w | w
        · exact absurd ⟨by omega, by omega, (oi j).mpr z1⟩ q2
        · omega
    · intro hz
      rcases hn (σ 4 k) (by omega) with ⟨z1, z2⟩ | ⟨j, z1, z2, z3, z4, z5⟩
      · omega
      · have e : j = k := h4.2 j k z1.1 hk z2 (by omega)
        subst e
        refine ⟨(oi j).mpr z1, fun i hi w => ?_⟩
        obtain ⟨m1, m2, m3, m4, m5, m6, m7, m8⟩ := hI.mb hi
        obtain ⟨n1, n2, n3, n4, n5, n6, n7, n8⟩ := hI.mb hk
        have := z5 i ((oi i).mp w.2.2) (by omega)
        omega
  · rcases hn t ht with ⟨z1, z2⟩ | ⟨j, z1, z2, z3, z4, z5⟩
    · exact absurd z1 hz
    · exact ⟨j, z1.1, z2, z3.symm, z4.symm⟩
theorem Link.val (hI : Inv σ τ) {n : Nat → Nat} {v : Nat → Int64} {g : Nat → Nat} (h : Link σ τ n v g) {k : Nat} (hk : k < σ 501 0) (hg : g k = 1) : n (σ 4 k) ≠ 0 ∧ τ 0 k = v (σ 4 k) ∧ σ 4 k < 8 := by
  obtain ⟨h0, h1, h2, h3, h4, -⟩ := id hI
  have e6 := h0.2.2.2.2.2.1
  obtain ⟨b1, b2, b3, b4, b5, b6, b7, b8, b9, b10, b11, b12⟩ := h4.1 k hk
  have q := ((h.1 k hk).2).mp hg
  obtain ⟨j, j1, j2, j3, j4⟩ := h.2 (σ 4 k) (by omega) (by omega)
  have e : j = k := h4.2 j k j1 hk j2 (by omega)
  subst e
  exact ⟨by omega, j4, by omega⟩
theorem Link.ex {n : Nat → Nat} {v : Nat → Int64} {g : Nat → Nat} (h : Link σ τ n v g) {t : Nat} (ht : t < 8) (hz : n t ≠ 0) : ∃ k, k < σ 501 0 ∧ g k = 1 ∧ σ 4 k = t ∧ τ 0 k = v t := by
  obtain ⟨j, j1, j2, j3, j4⟩ := h.2 t ht hz
  exact ⟨j, j1, (h.1 j j1).2.mpr (by rw [j2]; exact j3.symm), j2, j4⟩
theorem Link.none {n : Nat → Nat} {v : Nat → Int64} {g : Nat → Nat} (hI : Inv σ τ) (h : Link σ τ n v g) : sm g (σ 501 0) = 0 ↔ ∀ t, t < 8 → n t = 0 := by
  rw [sm_zero]
  constructor
  · intro z t ht
    refine Classical.byContradiction (fun w => ?_)
    obtain ⟨k, k1, k2, -⟩ := h.ex ht w
    have := z k k1
    omega
  · intro z k hk
    have b := (h.1 k hk).1
    refine Classical.byContradiction (fun w => ?_)
    obtain ⟨a1, a2, a3⟩ := h.val hI hk (by omega)
    exact a1 (z _ a3)
/-- how many: by telling and by teller -/
theorem sm_upd {f f' : Nat → Nat} {t0 : Nat} (h1 : ∀ i, i ≠ t0 → f' i = f i) (h2 : f' t0 = f t0 + 1) (n : Nat) : sm f' n = sm f n + (if t0 < n then 1 else 0) := by
  induction n with
  | zero => rfl
  | succ n ih =>
    show sm f' n + f' n = sm f n + f n + _
    rw [ih]
    by_cases e : n = t0
    · subst e
      rw [h2, if_neg (by omega), if_pos (by omega)]
      omega
    · rw [h1 n e]
      by_cases w : t0 < n
      · rw [if_pos w, if_pos (by omega)]
        omega
      · rw [if_neg w, if_neg (by omega)]
        omega
theorem Link.many (hI : Inv σ τ) {n : Nat → Nat} {v : Nat → Int64} {g : Nat → Nat} (h : Link σ τ n v g) : sm g (σ 501 0) = sm (nz n) 8 := by
  have key : ∀ m, m ≤ σ 501 0 → ∃ u : Nat → Nat, (∀ t, t < 8 → u t ≤ 1 ∧ (u t = 1 ↔ ∃ k, k < m ∧ g k = 1 ∧ σ 4 k = t)) ∧ sm g m = sm u 8 := by
    intro m
    induction m with
    | zero => exact fun _ => ⟨fun _ => 0, fun t ht => ⟨Nat.zero_le 1, ⟨fun w => (Nat.zero_ne_one w).elim, fun ⟨k, k1, _⟩ => absurd k1 (Nat.not_lt_zero k)⟩⟩, rfl⟩
    | succ m ih =>
      intro hm
      obtain ⟨u, u1, u2⟩ := ih (by omega)
      have b := (h.1 m (by omega)).1
      rcases Nat.eq_zero_or_pos (g m) with z | z
      · refine ⟨u, fun t ht => ⟨(u1 t ht).1, ?_⟩, ?_⟩
        · rw [(u1 t ht).2]
          constructor
          · rintro ⟨k, k1, k2⟩
            exact ⟨k, by omega, k2⟩
          · rintro ⟨k, k1, k2, k3⟩
            have : k ≠ m := fun w => by subst w; omega
            exact ⟨k, by omega, k2, k3⟩
        · show sm g m + g m = _
          omega
      · have g1 : g m = 1 := by omega
        obtain ⟨a1, a2, a3⟩ := h.val hI (by omega) g1
        have hu0 : u (σ 4 m) = 0 := by
          have b1 := (u1 _ a3).1
          refine Classical.byContradiction (fun w => ?_)
          obtain ⟨k, k1, k2, k3⟩ := (u1 _ a3).2.mp (by omega)
          have q1 := ((h.1 k (by omega)).2).mp k2
          have q2 := ((h.1 m (by omega)).2).mp g1
          have e := hI.2.2.2.2.1.2 k m (by omega) (by omega) k3 (by rw [← q1, ← q2, k3])
          omega
        refine ⟨fun i => if i = σ 4 m then 1 else u i, fun t ht => ?_, ?_⟩
        · by_cases e : t = σ 4 m
          · subst e
            simp only [if_true]
            exact ⟨by omega, ⟨fun _ => ⟨m, by omega, g1, rfl⟩, fun _ => trivial⟩⟩
          · simp only [if_neg e]
            refine ⟨(u1 t ht).1, ?_⟩
            rw [(u1 t ht).2]
            constructor
            · rintro ⟨k, k1, k2⟩
              exact ⟨k, by omega, k2⟩
            · rintro ⟨k, k1, k2, k3⟩
              have : k ≠ m := fun w => by subst w; exact e k3.symm
              exact ⟨k, by omega, k2, k3⟩
        · have q := sm_upd (f := u) (f' := fun i => if i = σ 4 m then 1 else u i) (t0 := σ 4 m) (fun i hi => if_neg hi) (by simp only [if_true]; omega) 8
          rw [if_pos a3] at q
          show sm g m + g m = _
          omega
  obtain ⟨u, u1, u2⟩ := key _ (Nat.le_refl _)
  rw [u2]
  refine sm_congr (fun t ht => ?_)
  obtain ⟨c1, c2⟩ := u1 t ht
  unfold nz
  by_cases z : n t = 0
  · rw [if_pos z]
    refine Classical.byContradiction (fun w => ?_)
    obtain ⟨k, k1, k2, k3⟩ := c2.mp (by omega)
    have := (h.val hI k1 k2).1
    rw [k3] at this
    exact this z
  · rw [if_neg z]
    obtain ⟨k, k1, k2, k3, -⟩ := h.ex ht z
    exact c2.mpr ⟨k, k1, k2, k3⟩
/-- counts -/
def cntM (σ : Nat → Nat → Nat) (g : Nat → Nat) (r : Nat) (th ki : Int32) (e : Nat) : Prop := σ 517 (r * 40 + e) = 1 ∧ nI (σ 519 e) = th ∧ nI (σ 520 e) = ki ∧ ∀ k, k < σ 501 0 → σ 522 (e * 200 + k) = g k
theorem counts_off (h : Rep n0 σ' τ' ad mm) {K : Int32 → gM → Option (Int32 × gM)} {p2 : Int32} (f j : Nat) : L_M_counts_45 K (f + 1) (some (ad 100 0)) p2 0 (nI j) mm = K 0 mm := by
  rw [L_M_counts_45]
  simp only [h.xM, gb1_some]
  by_cases z : nI (σ' 501 0) ≤ nI j
  · rw [if_pos z]
  · rw [if_neg z, if_pos trivial]
theorem counts_loop (h : Rep n0 σ' τ' ad mm) (hF : Fr σ σ τ σ' τ') (hI : Inv σ τ) (hg : ∀ k, k < σ 501 0 → σ' 529 k ≤ 1) {e : Nat} (he : e < 40) {K : Int32 → gM → Option (Int32 × gM)} (d : Nat) : ∀ (j f : Nat), j + d = σ 501 0 → d + 1 < f →
    ((∀ i, j ≤ i → i < σ 501 0 → σ 522 (e * 200 + i) = σ' 529 i) ∧ L_M_counts_45 K f (some (ad 100 0)) (nI e) 1 (nI j) mm = K 1 mm) ∨ (¬ (∀ i, j ≤ i → i < σ 501 0 → σ 522 (e * 200 + i) = σ' 529 i) ∧ L_M_counts_45 K f (some (ad 100 0)) (nI e) 1 (nI j) mm = K 0 mm) := by
  have e3 := hI.1.2.2.1
  have h522 : ∀ k, k < 200 → σ 522 (e * 200 + k) ≤ 1 := by
    intro k hk
    rw [hI.2.2.2.2.2.2.2.2.1.2.2.2.2 e k he hk]
    split <;> omega
  induction d with
  | zero =>
    intro j f hj hf
    obtain ⟨f, rfl⟩ : ∃ g, f = g + 1 := ⟨f - 1, by omega⟩
    left
    refine ⟨fun i i1 i2 => by omega, ?_⟩
    rw [L_M_counts_45]
    simp only [h.xM, gb1_some, hF.allM]
    rw [if_pos (nI_le (by omega) (by omega))]
  | succ d ih =>
    intro j f hj hf
    obtain ⟨f, rfl⟩ : ∃ g, f = g + 1 := ⟨f - 1, by omega⟩
    have b1 := h522 j (by omega)
    have b2 := hg j (by omega)
    rw [L_M_counts_45]
    simp only [h.xM, gb1_some, hF.allM, ix200, h.a522 (j := e * 200 + j) (by omega), h.a529 (j := j) (by omega), gLet_eq, nI_1]
    rw [if_neg (nI_ge (by omega) (by omega)), if_neg (by decide)]
    by_cases z : σ 522 (e * 200 + j) = σ' 529 j
    · rw [if_pos (by rw [z])]
      rcases ih (j + 1) f (by omega) (by omega) with ⟨z1, z2⟩ | ⟨z1, z2⟩
      · left
        refine ⟨fun i i1 i2 => ?_, z2⟩
        by_cases w : i = j
        · subst w; exact z
        · exact z1 i (by omega) i2
      · right
        exact ⟨fun w => z1 (fun i i1 i2 => w i (by omega) i2), z2⟩
    · right
      rw [if_neg (fun w => z ((nI_eq (by omega) (by omega)).mp w))]
      obtain ⟨f, rfl⟩ : ∃ g, f = g + 1 := ⟨f - 1, by omega⟩
      rw [counts_off h]
      exact ⟨fun w => z (w j (by omega) (by omega)), rfl⟩
theorem M_counts (h : Rep n0 σ' τ' ad mm) (hF : Fr σ σ τ σ' τ') (hI : Inv σ τ) (hg : ∀ k, k < σ 501 0 → σ' 529 k ≤ 1) {r e : Nat} (hr : r < 24) (he : e < σ 503 0) (th ki : Int32) : (cntM σ (σ' 529) r th ki e ∧ F_M_counts (ad 100 0) (nI r) (nI e) th ki mm = some (1, mm)) ∨ (¬ cntM σ (σ' 529) r th ki e ∧ F_M_counts (ad 100 0) (nI r) (nI e) th ki mm = some (0, mm)) := by
  obtain ⟨h0, h1, h2, h3, h4, h5, h6, h7, h8, h9⟩ := id hI
  have e3 := h0.2.2.1
  have e12 := h0.2.2.2.2.2.2.2.2.2.2.2.1
  have l1 := (h8.2.2.1 r e hr (by omega)).1
  unfold F_M_counts cntM
  obtain ⟨f, hf, hfe⟩ := gF_big
  rw [hfe]
  simp only [h.xM, gb1_some, ix40, h.a517 (j := r * 40 + e) (by omega), h.a519 (j := e) (by omega), h.a520 (j := e) (by omega), hF.allM, gLet_eq]
  have off : ∀ {p2 : Int32}, L_M_counts_45 (fun p5 mm => gIf (p5 = 0 ∨ p5 = 1) (some (p5, mm))) f (some (ad 100 0)) p2 0 0 mm = some (0, mm) := by
    intro p2
    obtain ⟨f, rfl⟩ : ∃ g, f = g + 1 := ⟨f - 1, by omega⟩
    have := counts_off (σ' := σ') h (K := fun p5 mm => gIf (p5 = 0 ∨ p5 = 1) (some (p5, mm))) (p2 := p2) f 0
    rw [show nI 0 = (0 : Int32) from rfl] at this
    rw [this, gIf_pos (Or.inl rfl)]
  by_cases z1 : σ 517 (r * 40 + e) = 0
  · right
    rw [if_pos (by rw [z1]; rfl), off]
    exact ⟨fun w => by omega, rfl⟩
  · rw [if_neg (fun w => z1 ((nI_z (by omega)).mp w))]
    by_cases z2 : nI (σ 519 e) = th
    · rw [if_pos z2]
      by_cases z3 : nI (σ 520 e) = ki
      · rw [if_pos z3]
        rcases counts_loop h hF hI hg (e := e) (by omega) (K := fun p5 mm => gIf (p5 = 0 ∨ p5 = 1) (some (p5, mm))) (σ 501 0) 0 f (by omega) (by omega) with ⟨y1, y2⟩ | ⟨y1, y2⟩
        · left
          rw [show nI 0 = (0 : Int32) from rfl] at y2
          rw [y2, gIf_pos (Or.inr rfl)]
          exact ⟨⟨by omega, z2, z3, fun k hk => y1 k (by omega) hk⟩, rfl⟩
        · right
          rw [show nI 0 = (0 : Int32) from rfl] at y2
          rw [y2, gIf_pos (Or.inl rfl)]
          exact ⟨fun w => y1 (fun k _ hk => w.2.2.2 k hk), rfl⟩
      · right
        rw [if_neg z3, off]
        exact ⟨fun w => z3 w.2.2.1, rfl⟩
    · right
      rw [if_neg z2, off]
      exact ⟨fun w => z2 w.2.1, rfl⟩
theorem cnt_iff (hI : Inv σ τ) {r c e : Nat} (hr : r < 24) (hc : c < 128) (he : e < σ 503 0) {n : Nat → Nat} {v : Nat → Int64} {g : Nat → Nat} (hl : Link σ τ n v g) (hn : ∀ t, t < 8 → n t < 10000) : cntM σ g r (nI (c / 8)) (nI (c % 8)) e ↔ mde σ τ n (hx r) c e := by
  obtain ⟨h0, h1, h2, h3, h4, h5, h6, h7, h8, h9⟩ := id hI
  have e3 := h0.2.2.1
  have e6 := h0.2.2.2.2.2.1
  have e12 := h0.2.2.2.2.2.2.2.2.2.2.2.1
  obtain ⟨w1, w2, w3, w4, w5⟩ := id h8
  obtain ⟨y1, y2, y3, y4, y5, y6, y7, y8⟩ := w4 e he
  unfold cntM mde
  constructor
  · rintro ⟨a1, a2, a3, a4⟩
    have p1 := (nI_eq (by omega) (by omega)).mp a2
    have p2 := (nI_eq (by omega) (by omega)).mp a3
    refine ⟨(w3 r e hr (by omega)).2.mp a1, by omega, fun t ht => ?_⟩
    rcases Nat.eq_zero_or_pos (σ 24 (e * 8 + t)) with z | z
    · refine Classical.byContradiction (fun w => ?_)
      obtain ⟨k, k1, k2, k3, k4⟩ := hl.ex ht (fun q => w (by rw [z, q]))
      have q := a4 k k1
      rw [w5 e k (by omega) (by omega), k2] at q
      have q2 : σ 6 k = σ 24 (e * 8 + σ 4 k) := by
        rcases Classical.em (σ 6 k = σ 24 (e * 8 + σ 4 k)) with u | u
        · exact u
        · rw [if_neg (fun x => u x.2.2)] at q
          omega
      rw [k3, z] at q2
      have := (h4.1 k k1).2.2.2.1
      omega
    · obtain ⟨k, k1, k2, k3⟩ := y8 t ht (by omega)
      have q := a4 k k1
      rw [w5 e k (by omega) (by omega), if_pos ⟨he, k1, by rw [k2]; exact k3⟩] at q
      have q2 := ((hl.1 k k1).2).mp q.symm
      rw [k2] at q2
      omega
  · rintro ⟨a1, a2, a3⟩
    refine ⟨(w3 r e hr (by omega)).2.mpr a1, by rw [show σ 519 e = c / 8 by omega], by rw [show σ 520 e = c % 8 by omega], fun k hk => ?_⟩
    have ht := (h4.1 k hk).2.1
    rw [w5 e k (by omega) (by omega), a3 (σ 4 k) (by omega)]
    obtain ⟨b1, b2⟩ := hl.1 k hk
    by_cases z : σ 6 k = n (σ 4 k)
    · rw [if_pos ⟨he, hk, z⟩, b2.mpr z.symm]
    · rw [if_neg (fun w => z w.2.2)]
      have : g k ≠ 1 := fun w => z (b2.mp w).symm
      omega
end VM
