/-! the reference's current tellings, where the class may have changed -/
def FM (σ σ' : Nat → Nat → Nat) : Prop := ∀ g, 500 ≤ g → g ≠ 529 → σ' g = σ g
section CN
variable {n0 : Nat} {σ σ' σ'' : Nat → Nat → Nat} {τ τ' τ'' : Nat → Nat → Int64} {ad : Nat → Nat → Nat} {mm : gM}
theorem FM.allM (h : FM σ σ') : σ' 500 = σ 500 ∧ σ' 501 = σ 501 ∧ σ' 502 = σ 502 ∧ σ' 503 = σ 503 ∧ σ' 511 = σ 511 ∧ σ' 512 = σ 512 ∧ σ' 513 = σ 513 ∧ σ' 514 = σ 514 ∧ σ' 515 = σ 515 ∧ σ' 516 = σ 516 ∧ σ' 517 = σ 517 ∧ σ' 518 = σ 518 ∧ σ' 519 = σ 519 ∧ σ' 520 = σ 520 ∧ σ' 521 = σ 521 ∧ σ' 522 = σ 522 ∧ σ' 523 = σ 523 :=
  ⟨h _ (by omega) (by omega), h _ (by omega) (by omega), h _ (by omega) (by omega), h _ (by omega) (by omega), h _ (by omega) (by omega), h _ (by omega) (by omega), h _ (by omega) (by omega), h _ (by omega) (by omega), h _ (by omega) (by omega), h _ (by omega) (by omega), h _ (by omega) (by omega), h _ (by omega) (by omega), h _ (by omega) (by omega), h _ (by omega) (by omega), h _ (by omega) (by omega), h _ (by omega) (by omega), h _ (by omega) (by omega)⟩
theorem FM.w529 (h : FM σ σ') {i v : Nat} : FM σ (uS σ' 529 i v) := fun g h1 h2 => (uS_g h2).trans (h g h1 h2)
theorem N_isOf (h : Rep n0 σ' τ' ad mm) (hF : FM σ σ') (hI : Inv σ τ) {r k : Nat} (hr : r < 24) (hk : k < σ 501 0) (th ki D : Int32) : (ofM σ r th ki D k ∧ F_M_isOf (ad 100 0) (nI r) (nI k) th ki D mm = some (1, mm)) ∨ (¬ ofM σ r th ki D k ∧ F_M_isOf (ad 100 0) (nI r) (nI k) th ki D mm = some (0, mm)) := by
  obtain ⟨h0, h1, h2, h3, h4, h5, h6, h7, h8, h9⟩ := id hI
  have e3 := h0.2.2.1
  have l1 := h7.le1 r k hr (by omega)
  unfold F_M_isOf ofM
  simp only [h.xM, gb1_some, ix200, h.a516 (j := r * 200 + k) (by omega), h.a513 (j := k) (by omega), h.a514 (j := k) (by omega), h.a515 (j := k) (by omega), hF.allM]
  by_cases z1 : σ 516 (r * 200 + k) = 0
  · right
    rw [if_pos (by rw [z1]; rfl)]
    exact ⟨fun w => by omega, rfl⟩
  · rw [if_neg (fun w => z1 ((nI_z (by omega)).mp w))]
    by_cases z2 : nI (σ 513 k) = th
    · rw [if_pos z2]
      by_cases z3 : nI (σ 514 k) = ki
      · rw [if_pos z3]
        by_cases z4 : D < nI (σ 515 k)
        · right
          rw [if_pos z4]
          exact ⟨fun w => w.2.2.2.2 z4, rfl⟩
        · left
          rw [if_neg z4]
          exact ⟨⟨hk, by omega, z2, z3, z4⟩, rfl⟩
      · right
        rw [if_neg z3]
        exact ⟨fun w => z3 w.2.2.2.1, rfl⟩
    · right
      rw [if_neg z2]
      exact ⟨fun w => z2 w.2.2.1, rfl⟩
theorem ncIn (h : Rep n0 σ' τ' ad mm) (hF : FM σ σ') (hI : Inv σ τ) {r k : Nat} (hr : r < 24) (hk : k < σ 501 0) (th ki D : Int32) {p5 : Int32} {K : Option Nat → Int32 → Int32 → Int32 → Int32 → Int32 → Int32 → Int32 → gM → Option (Int32 × gM)} (d : Nat) : ∀ (j f : Nat), j + d = σ 501 0 → d + 1 < f →
    ((∀ i, j ≤ i → i < σ 501 0 → ¬ (σ 511 i = σ 511 k ∧ σ 512 k < σ 512 i ∧ ofM σ r th ki D i)) ∧ L_M_findCurrent_31 K f (some (ad 100 0)) (nI r) th ki D p5 (nI k) 1 (nI j) mm = K (some (ad 100 0)) (nI r) th ki D p5 (nI k) 1 mm) ∨ (¬ (∀ i, j ≤ i → i < σ 501 0 → ¬ (σ 511 i = σ 511 k ∧ σ 512 k < σ 512 i ∧ ofM σ r th ki D i)) ∧ L_M_findCurrent_31 K f (some (ad 100 0)) (nI r) th ki D p5 (nI k) 1 (nI j) mm = K (some (ad 100 0)) (nI r) th ki D p5 (nI k) 0 mm) := by
  have e3 := hI.1.2.2.1
  induction d with
  | zero =>
    intro j f hj hf
    obtain ⟨f, rfl⟩ : ∃ g, f = g + 1 := ⟨f - 1, by omega⟩
    left
    refine ⟨fun i i1 i2 => by omega, ?_⟩
    rw [L_M_findCurrent_31]
    simp only [h.xM, gb1_some, hF.allM]
    rw [if_pos (nI_le (by omega) (by omega))]
  | succ d ih =>
    intro j f hj hf
    obtain ⟨f, rfl⟩ : ∃ g, f = g + 1 := ⟨f - 1, by omega⟩
    obtain ⟨k1, k2, -⟩ := hI.mb hk
    obtain ⟨j1, j2, -⟩ := hI.mb (k := j) (by omega)
    have go : ¬ (σ 511 j = σ 511 k ∧ σ 512 k < σ 512 j ∧ ofM σ r th ki D j) → ((∀ i, j ≤ i → i < σ 501 0 → ¬ (σ 511 i = σ 511 k ∧ σ 512 k < σ 512 i ∧ ofM σ r th ki D i)) ∧ L_M_findCurrent_31 K f (some (ad 100 0)) (nI r) th ki D p5 (nI k) 1 (nI (j + 1)) mm = K (some (ad 100 0)) (nI r) th ki D p5 (nI k) 1 mm) ∨ (¬ (∀ i, j ≤ i → i < σ 501 0 → ¬ (σ 511 i = σ 511 k ∧ σ 512 k < σ 512 i ∧ ofM σ r th ki D i)) ∧ L_M_findCurrent_31 K f (some (ad 100 0)) (nI r) th ki D p5 (nI k) 1 (nI (j + 1)) mm = K (some (ad 100 0)) (nI r) th ki D p5 (nI k) 0 mm) := by
      intro hn
      rcases ih (j + 1) f (by omega) (by omega) with ⟨z1, z2⟩ | ⟨z1, z2⟩
      · left
        refine ⟨fun i i1 i2 => ?_, z2⟩
        by_cases w : i = j
        · subst w; exact hn
        · exact z1 i (by omega) i2
      · right
        exact ⟨fun w => z1 (fun i i1 i2 => w i (by omega) i2), z2⟩
    rw [L_M_findCurrent_31]
    simp only [h.xM, gb1_some, hF.allM, h.a511 (j := j) (by omega), h.a511 (j := k) (by omega), h.a512 (j := j) (by omega), h.a512 (j := k) (by omega), gLet_eq, nI_1]
    rw [if_neg (nI_ge (by omega) (by omega)), if_neg (by decide)]
    by_cases y1 : σ 511 j = σ 511 k
    · rw [if_pos (by rw [y1])]
      by_cases y2 : σ 512 j ≤ σ 512 k
      · rw [if_pos (nI_le y2 (by omega))]
        exact go (fun w => by omega)
      · rw [if_neg (nI_ge (by omega) (by omega))]
        rcases N_isOf h hF hI (r := r) (k := j) hr (by omega) th ki D with ⟨u1, u2⟩ | ⟨u1, u2⟩
        · right
          rw [u2]
          simp only [gb2_some, if_neg (show ¬ (1 : Int32) = 0 by decide)]
          obtain ⟨f, rfl⟩ : ∃ g, f = g + 1 := ⟨f - 1, by omega⟩
          rw [fcIn0 h]
          exact ⟨fun w => w j (by omega) (by omega) ⟨y1, by omega, u1⟩, rfl⟩
        · rw [u2]
          simp only [gb2_some, if_true]
          exact go (fun w => u1 w.2.2)
    · rw [if_neg (fun w => y1 ((nI_eq (by omega) (by omega)).mp w))]
      exact go (fun w => y1 w.1)
theorem ncOut (hI : Inv σ τ) {r : Nat} (hr : r < 24) (th ki D : Int32) {K : Int32 → gM → Option (Int32 × gM)} (d : Nat) : ∀ (k f : Nat) (σ' : Nat → Nat → Nat) (τ' : Nat → Nat → Int64) (mm : gM), Rep n0 σ' τ' ad mm → FM σ σ' → k + d = σ 501 0 → d < f → CurM σ (ofM σ r th ki D) k (σ' 529) →
    ∃ (σ'' : Nat → Nat → Nat) (mm' : gM), L_M_findCurrent_6 K f (some (ad 100 0)) (nI r) th ki D (nI (sm (σ' 529) k)) (nI k) mm = K (nI (sm (σ'' 529) (σ 501 0))) mm' ∧ mm'.2 = mm.2 ∧ Rep n0 σ'' τ' ad mm' ∧ (∀ g, g ≠ 529 → σ'' g = σ' g) ∧ CurM σ (ofM σ r th ki D) (σ 501 0) (σ'' 529) := by
  have e3 := hI.1.2.2.1
  induction d with
  | zero =>
    intro k f σ' τ' mm h hF hk hf hc
    obtain ⟨f, rfl⟩ : ∃ g, f = g + 1 := ⟨f - 1, by omega⟩
    have : k = σ 501 0 := by omega
    subst this
    refine ⟨σ', mm, ?_, rfl, h, fun _ _ => rfl, hc⟩
    rw [L_M_findCurrent_6]
    simp only [h.xM, gb1_some, hF.allM]
    rw [if_pos (nI_le (by omega) (by omega))]
  | succ d ih =>
    intro k f σ' τ' mm h hF hk hf hc
    obtain ⟨f, rfl⟩ : ∃ g, f = g + 1 := ⟨f - 1, by omega⟩
    rw [L_M_findCurrent_6]
    simp only [h.xM, gb1_some, hF.allM]
    rw [if_neg (nI_ge (by omega) (by omega))]
    obtain ⟨F, hFb, hFe⟩ := gF_big
    rw [hFe]
    have fin : ∀ b : Nat, b ≤ 1 → (b = 1 ↔ cuM σ (ofM σ r th ki D) k) → ∃ (σ'' : Nat → Nat → Nat) (mm' : gM), (gIf (nI b = 0 ∨ nI b = 1) (gb1 (gsI 2 (some (ad 1529 0)) (nI k) (nI b) mm) fun mm43 => if nI b = 0 then L_M_findCurrent_6 K f (some (ad 100 0)) (nI r) th ki D (nI (sm (σ' 529) k) + 0) (nI k + 1) mm43 else L_M_findCurrent_6 K f (some (ad 100 0)) (nI r) th ki D (nI (sm (σ' 529) k) + 1) (nI k + 1) mm43)) = K (nI (sm (σ'' 529) (σ 501 0))) mm' ∧ mm'.2 = mm.2 ∧ Rep n0 σ'' τ' ad mm' ∧ (∀ g, g ≠ 529 → σ'' g = σ' g) ∧ CurM σ (ofM σ r th ki D) (σ 501 0) (σ'' 529) := by
      intro b hb hbc
      obtain ⟨mm1, a1, b1, r1⟩ := h.w529 (j := k) (by omega) b
      have hc1 : CurM σ (ofM σ r th ki D) (k + 1) (uS σ' 529 k b 529) := by
        intro i hi
        by_cases w : i = k
        · subst w
          rw [uS_s]
          exact ⟨hb, hbc⟩
        · rw [uS_i w]
          exact hc i (by omega)
      obtain ⟨σ2, mm2, a2, b2, r2, F2, c2⟩ := ih (k + 1) f _ τ' mm1 r1 hF.w529 (by omega) (by omega) hc1
      refine ⟨σ2, mm2, ?_, by rw [b2, b1], r2, fun g hg => (F2 g hg).trans (uS_g hg), c2⟩
      rw [gIf_pos (nI_01 hb), a1, gb1_some]
      have hs : sm (uS σ' 529 k b 529) (k + 1) = sm (σ' 529) k + b := by
        show sm (uS σ' 529 k b 529) k + uS σ' 529 k b 529 k = _
        rw [uS_s, sm_congr (g' := σ' 529) (fun i hi => uS_i (by omega))]
      rw [hs] at a2
      rcases Nat.eq_zero_or_pos b with z | z
      · subst z
        rw [if_pos (show nI 0 = (0 : Int32) from rfl), show nI (sm (σ' 529) k) + (0 : Int32) = nI (sm (σ' 529) k + 0) from nI_add _ 0, nI_1]
        exact a2
      · have : b = 1 := by omega
        subst this
        rw [if_neg (by decide), nI_1, nI_1]
        exact a2
    rcases N_isOf h hF hI hr (k := k) (by omega) th ki D with ⟨u1, u2⟩ | ⟨u1, u2⟩
    · rw [u2]
      simp only [gb2_some]
      rcases ncIn h hF hI hr (k := k) (by omega) th ki D (p5 := nI (sm (σ' 529) k)) (K := fun p0 p1 p2 p3 p4 p5 p6 p7 mm => gb1 (gfR 10 26 p0 mm) fun v41 => gIf (p7 = 0 ∨ p7 = 1) (gb1 (gsI 2 v41 p6 p7 mm) fun mm43 => if p7 = 0 then gLet (p5 + (0 : Int32)) fun x47 => gLet (p6 + 1) fun x48 => L_M_findCurrent_6 K f p0 p1 p2 p3 p4 x47 x48 mm43 else gLet (p5 + (1 : Int32)) fun x49 => gLet (p6 + 1) fun x50 => L_M_findCurrent_6 K f p0 p1 p2 p3 p4 x49 x50 mm43)) (σ 501 0) 0 F (by omega) (by omega) with ⟨z1, z2⟩ | ⟨z1, z2⟩
      · rw [show nI 0 = (0 : Int32) from rfl] at z2
        rw [z2]
        simp only [h.xM, gb1_some, gLet_eq]
        exact fin 1 (by omega) ⟨fun _ => ⟨u1, fun j hj => z1 j (by omega) hj⟩, fun _ => rfl⟩
      · rw [show nI 0 = (0 : Int32) from rfl] at z2
        rw [z2]
        simp only [h.xM, gb1_some, gLet_eq]
        exact fin 0 (by omega) ⟨fun w => by omega, fun w => absurd (fun j _ hj => w.2 j hj) z1⟩
    · rw [u2]
      simp only [gb2_some]
      obtain ⟨F, rfl⟩ : ∃ g, F = g + 1 := ⟨F - 1, by omega⟩
      rw [fcIn0 h]
      simp only [h.xM, gb1_some, gLet_eq]
      exact fin 0 (by omega) ⟨fun w => by omega, fun w => absurd w.1 u1⟩
theorem N_findCurrent (h : Rep n0 σ' τ' ad mm) (hF : FM σ σ') (hI : Inv σ τ) {r : Nat} (hr : r < 24) (th ki D : Int32) : ∃ (σ'' : Nat → Nat → Nat) (mm' : gM), F_M_findCurrent (ad 100 0) (nI r) th ki D mm = some (nI (sm (σ'' 529) (σ 501 0)), mm') ∧ mm'.2 = mm.2 ∧ Rep n0 σ'' τ' ad mm' ∧ (∀ g, g ≠ 529 → σ'' g = σ' g) ∧ CurM σ (ofM σ r th ki D) (σ 501 0) (σ'' 529) := by
  unfold F_M_findCurrent
  obtain ⟨f, hf, hfe⟩ := gF_big
  have e3 := hI.1.2.2.1
  rw [hfe]
  exact ncOut hI hr th ki D (K := fun p5 mm => some (p5, mm)) (σ 501 0) 0 f σ' τ' mm h hF (by omega) (by omega) (fun k hk => by omega)
theorem set36 (h : Rep n0 σ τ ad mm) (hN : σ 501 0 ≤ 200) (hg : ∀ k, k < σ 501 0 → σ 529 k ≤ 1) {a0 a1 a2 a3 : Int32} {K : Option Nat → Int32 → Int32 → Int32 → Int32 → Int32 → gM → Option (Int32 × gM)} (d : Nat) : ∀ (k f : Nat) (acc : Int32), k + d = σ 501 0 → d < f → ((acc = 1 ∧ ∃ i, i < k ∧ σ 529 i = 1 ∧ nI (σ 511 i) = a3) ∨ (acc = 0 ∧ ∀ i, i < k → ¬ (σ 529 i = 1 ∧ nI (σ 511 i) = a3))) →
    ((∃ i, i < σ 501 0 ∧ σ 529 i = 1 ∧ nI (σ 511 i) = a3) ∧ L_M_settle_36 K f (some (ad 100 0)) a0 a1 a2 a3 (nI (sm (σ 529) (σ 501 0))) acc (nI k) mm = K (some (ad 100 0)) a0 a1 a2 a3 1 mm) ∨ ((∀ i, i < σ 501 0 → ¬ (σ 529 i = 1 ∧ nI (σ 511 i) = a3)) ∧ L_M_settle_36 K f (some (ad 100 0)) a0 a1 a2 a3 (nI (sm (σ 529) (σ 501 0))) acc (nI k) mm = K (some (ad 100 0)) a0 a1 a2 a3 0 mm) := by
  have hsm : sm (σ 529) (σ 501 0) ≤ 200 := Nat.le_trans (sm_le hg) hN
  induction d with
  | zero =>
    intro k f acc hk hf ha
    obtain ⟨f, rfl⟩ : ∃ g, f = g + 1 := ⟨f - 1, by omega⟩
    have : k = σ 501 0 := by omega
    subst this
    rw [L_M_settle_36]
    simp only [h.xM, gb1_some]
    rw [if_pos (nI_le (by omega) (by omega))]
    rcases ha with ⟨rfl, a⟩ | ⟨rfl, a⟩
    · exact Or.inl ⟨a, rfl⟩
    · exact Or.inr ⟨a, rfl⟩
  | succ d ih =>
    intro k f acc hk hf ha
    obtain ⟨f, rfl⟩ : ∃ g, f = g + 1 := ⟨f - 1, by omega⟩
    rw [L_M_settle_36]
    simp only [h.xM, gb1_some, h.a529 (j := k) (by omega), h.a511 (j := k) (by omega), gLet_eq, nI_1]
    rw [if_neg (nI_ge (by omega) (by omega))]
    by_cases z0 : sm (σ 529) (σ 501 0) = 0
    · have z1 := sm_zero.mp z0
      right
      rw [if_pos (show nI (sm (σ 529) (σ 501 0)) ≤ 0 by rw [z0]; decide)]
      refine ⟨fun i hi w => by have := z1 i hi; omega, ?_⟩
      rcases ha with ⟨rfl, i, i1, i2, -⟩ | ⟨rfl, a⟩
      · have := z1 i (by omega)
        omega
      · rfl
    · rw [if_neg (show ¬ nI (sm (σ 529) (σ 501 0)) ≤ 0 from nI_ge (a := 0) (by omega) (by omega))]
      rcases ha with ⟨rfl, i, i1, i2⟩ | ⟨rfl, a⟩
      · rw [if_neg (by decide)]
        exact ih (k + 1) f 1 (by omega) (by omega) (Or.inl ⟨rfl, i, by omega, i2⟩)
      · rw [if_pos rfl]
        have go : ¬ (σ 529 k = 1 ∧ nI (σ 511 k) = a3) → ∀ i, i < k + 1 → ¬ (σ 529 i = 1 ∧ nI (σ 511 i) = a3) := fun hz i hi => by
          by_cases e : i = k
          · subst e; exact hz
          · exact a i (by omega)
        have hk1 := hg k (by omega)
        by_cases y1 : σ 529 k = 0
        · rw [if_pos (by rw [y1]; rfl)]
          exact ih (k + 1) f 0 (by omega) (by omega) (Or.inr ⟨rfl, go (fun w => by omega)⟩)
        · rw [if_neg (fun w => y1 ((nI_z (by omega)).mp w))]
          by_cases y2 : nI (σ 511 k) = a3
          · rw [if_pos y2]
            exact ih (k + 1) f 1 (by omega) (by omega) (Or.inl ⟨rfl, k, by omega, by omega, y2⟩)
          · rw [if_neg y2]
            exact ih (k + 1) f 0 (by omega) (by omega) (Or.inr ⟨rfl, go (fun w => y2 w.2)⟩)
theorem set131 {p1 : Int32} {K : Option Nat → Int32 → gM → Option (Int32 × gM)} (N S : Nat) (hN : N ≤ 200) (hS : S < 40) (d : Nat) : ∀ (k f : Nat) (σ : Nat → Nat → Nat) (mm : gM), Rep n0 σ τ ad mm → σ 501 0 = N → σ 503 0 = S → (∀ k, k < N → σ 529 k ≤ 1) → k + d = N → d < f → ∃ (σ' : Nat → Nat → Nat) (mm' : gM), L_M_settle_131 K f (some (ad 100 0)) p1 (nI k) mm = K (some (ad 100 0)) p1 mm' ∧ mm'.2 = mm.2 ∧ Rep n0 σ' τ ad mm' ∧ (∀ g, g ≠ 522 → σ' g = σ g) ∧ ∀ j, σ' 522 j = if S * 200 + k ≤ j ∧ j < S * 200 + N then σ 529 (j - S * 200) else σ 522 j := by
  induction d with
  | zero =>
    intro k f σ mm h h1 h2 h3 hk hf
    obtain ⟨f, rfl⟩ : ∃ g, f = g + 1 := ⟨f - 1, by omega⟩
    refine ⟨σ, mm, ?_, rfl, h, fun _ _ => rfl, fun j => ?_⟩
    · rw [L_M_settle_131]
      simp only [h.xM, gb1_some, h1]
      rw [if_pos (nI_le (by omega) (by omega))]
    · rw [if_neg (by omega)]
  | succ d ih =>
    intro k f σ mm h h1 h2 h3 hk hf
    obtain ⟨f, rfl⟩ : ∃ g, f = g + 1 := ⟨f - 1, by omega⟩
    have b := h3 k (by omega)
    obtain ⟨mm1, a1, b1, r1⟩ := h.w522 (j := S * 200 + k) (by omega) (σ 529 k)
    obtain ⟨σ', mm', c1, c2, c3, c4, c5⟩ := ih (k + 1) f _ mm1 r1 (by rw [uS_f (by omega)]; exact h1) (by rw [uS_f (by omega)]; exact h2) (by rw [uS_g (by omega)]; exact h3) (by omega) (by omega)
    refine ⟨σ', mm', ?_, by rw [c2, b1], c3, fun g hg => by rw [c4 g hg, uS_g hg], fun j => ?_⟩
    · rw [L_M_settle_131]
      simp only [h.xM, gb1_some, h1, h2, h.a529 (j := k) (by omega), ix200, gLet_eq, nI_1]
      rw [if_neg (nI_ge (by omega) (by omega)), gIf_pos (nI_01 b), a1, gb1_some]
      exact c1
    · rw [c5, uS_g (show (529 : Nat) ≠ 522 by omega)]
      by_cases e : j = S * 200 + k
      · subst e
        rw [if_neg (show ¬ (S * 200 + (k + 1) ≤ S * 200 + k ∧ S * 200 + k < S * 200 + N) by omega), if_pos (show S * 200 + k ≤ S * 200 + k ∧ S * 200 + k < S * 200 + N by omega), uS_s, Nat.add_sub_cancel_left]
      · by_cases w : S * 200 + (k + 1) ≤ j ∧ j < S * 200 + N
        · rw [if_pos w, if_pos (show S * 200 + k ≤ j ∧ j < S * 200 + N by omega)]
        · rw [if_neg w, if_neg (show ¬ (S * 200 + k ≤ j ∧ j < S * 200 + N) by omega), uS_i e]
end CN
