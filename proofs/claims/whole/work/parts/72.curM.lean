/-! the current tellings, in the reference -/
def ofM (σ : Nat → Nat → Nat) (r : Nat) (th ki D : Int32) (k : Nat) : Prop := k < σ 501 0 ∧ σ 516 (r * 200 + k) = 1 ∧ nI (σ 513 k) = th ∧ nI (σ 514 k) = ki ∧ ¬ D < nI (σ 515 k)
def cuM (σ : Nat → Nat → Nat) (P : Nat → Prop) (k : Nat) : Prop := P k ∧ ∀ j, j < σ 501 0 → ¬ (σ 511 j = σ 511 k ∧ σ 512 k < σ 512 j ∧ P j)
def CurM (σ : Nat → Nat → Nat) (P : Nat → Prop) (m : Nat) (g : Nat → Nat) : Prop := ∀ k, k < m → g k ≤ 1 ∧ (g k = 1 ↔ cuM σ P k)
section CM
variable {n0 : Nat} {σ σ' σ'' : Nat → Nat → Nat} {τ τ' τ'' : Nat → Nat → Int64} {ad : Nat → Nat → Nat} {mm : gM}
theorem Inv.mb (hI : Inv σ τ) {k : Nat} (hk : k < σ 501 0) : σ 511 k < 8 ∧ σ 512 k < 10000 ∧ σ 513 k < 16 ∧ σ 514 k < 8 ∧ σ 515 k ≤ 100000 ∧ σ 511 k = σ 4 k ∧ σ 512 k = σ 6 k ∧ 1 ≤ σ 512 k := by
  obtain ⟨h0, h1, h2, h3, h4, -⟩ := hI
  obtain ⟨e1, e2, e3, e4, e5, e6, -⟩ := h0
  obtain ⟨b1, b2, b3, b4, b5, b6, b7, b8, b9, b10, b11, b12⟩ := h4.1 k hk
  omega
theorem M_isOf (h : Rep n0 σ' τ' ad mm) (hF : Fr σ σ τ σ' τ') (hI : Inv σ τ) {r k : Nat} (hr : r < 24) (hk : k < σ 501 0) (th ki D : Int32) : (ofM σ r th ki D k ∧ F_M_isOf (ad 100 0) (nI r) (nI k) th ki D mm = some (1, mm)) ∨ (¬ ofM σ r th ki D k ∧ F_M_isOf (ad 100 0) (nI r) (nI k) th ki D mm = some (0, mm)) := by
  obtain ⟨h0, h1, h2, h3, h4, h5, h6, h7, h8, h9⟩ := id hI
  have e3 := h0.2.2.1
  have l1 := h7.le1 r k hr (by omega)
  unfold F_M_isOf ofM
  simp only [h.xM, gb1_some, ix200, h.a516 (j := r * 200 + k) (by omega), h.a513 (j := k) (by omega), h.a514 (j := k) (by omega), h.a515 (j := k) (by omega), hF.allM]
  by_cases z1 : σ 516 (r * 200 + k) = 0
  · right
    rw [if_pos (by rw [z1]; rfl)]
    exact ⟨fun w => by omega, rfl⟩
  · rw [if_neg (fun w => z1 ((nI_z (by omega)).mp w))]
    by_cases z2 : nI (σ 513 k) = th
    · rw [if_pos z2]
      by_cases z3 : nI (σ 514 k) = ki
      · rw [if_pos z3]
        by_cases z4 : D < nI (σ 515 k)
        · right
          rw [if_pos z4]
          exact ⟨fun w => w.2.2.2.2 z4, rfl⟩
        · left
          rw [if_neg z4]
          exact ⟨⟨hk, by omega, z2, z3, z4⟩, rfl⟩
      · right
        rw [if_neg z3]
        exact ⟨fun w => z3 w.2.2.2.1, rfl⟩
    · right
      rw [if_neg z2]
      exact ⟨fun w => z2 w.2.2.1, rfl⟩
theorem fcIn0 (h : Rep n0 σ' τ' ad mm) {K : Option Nat → Int32 → Int32 → Int32 → Int32 → Int32 → Int32 → Int32 → gM → Option (Int32 × gM)} {p1 th ki D p5 p6 j : Int32} (f : Nat) : L_M_findCurrent_31 K (f + 1) (some (ad 100 0)) p1 th ki D p5 p6 0 j mm = K (some (ad 100 0)) p1 th ki D p5 p6 0 mm := by
  rw [L_M_findCurrent_31]
  simp only [h.xM, gb1_some]
  by_cases z : nI (σ' 501 0) ≤ j
  · rw [if_pos z]
  · rw [if_neg z, if_pos trivial]
theorem fcIn (h : Rep n0 σ' τ' ad mm) (hF : Fr σ σ τ σ' τ') (hI : Inv σ τ) {r k : Nat} (hr : r < 24) (hk : k < σ 501 0) (th ki D : Int32) {p5 : Int32} {K : Option Nat → Int32 → Int32 → Int32 → Int32 → Int32 → Int32 → Int32 → gM → Option (Int32 × gM)} (d : Nat) : ∀ (j f : Nat), j + d = σ 501 0 → d + 1 < f →
    ((∀ i, j ≤ i → i < σ 501 0 → ¬ (σ 511 i = σ 511 k ∧ σ 512 k < σ 512 i ∧ ofM σ r th ki D i)) ∧ L_M_findCurrent_31 K f (some (ad 100 0)) (nI r) th ki D p5 (nI k) 1 (nI j) mm = K (some (ad 100 0)) (nI r) th ki D p5 (nI k) 1 mm) ∨ (¬ (∀ i, j ≤ i → i < σ 501 0 → ¬ (σ 511 i = σ 511 k ∧ σ 512 k < σ 512 i ∧ ofM σ r th ki D i)) ∧ L_M_findCurrent_31 K f (some (ad 100 0)) (nI r) th ki D p5 (nI k) 1 (nI j) mm = K (some (ad 100 0)) (nI r) th ki D p5 (nI k) 0 mm) := by
  have e3 := hI.1.2.2.1
  induction d with
  | zero =>
    intro j f hj hf
    obtain ⟨f, rfl⟩ : ∃ g, f = g + 1 := ⟨f - 1, by omega⟩
    left
    refine ⟨fun i i1 i2 => by omega, ?_⟩
    rw [L_M_findCurrent_31]
    simp only [h.xM, gb1_some, hF.allM]
    rw [if_pos (nI_le (by omega) (by omega))]
  | succ d ih =>
    intro j f hj hf
    obtain ⟨f, rfl⟩ : ∃ g, f = g + 1 := ⟨f - 1, by omega⟩
    obtain ⟨k1, k2, -⟩ := hI.mb hk
    obtain ⟨j1, j2, -⟩ := hI.mb (k := j) (by omega)
    have go : ¬ (σ 511 j = σ 511 k ∧ σ 512 k < σ 512 j ∧ ofM σ r th ki D j) → ((∀ i, j ≤ i → i < σ 501 0 → ¬ (σ 511 i = σ 511 k ∧ σ 512 k < σ 512 i ∧ ofM σ r th ki D i)) ∧ L_M_findCurrent_31 K f (some (ad 100 0)) (nI r) th ki D p5 (nI k) 1 (nI (j + 1)) mm = K (some (ad 100 0)) (nI r) th ki D p5 (nI k) 1 mm) ∨ (¬ (∀ i, j ≤ i → i < σ 501 0 → ¬ (σ 511 i = σ 511 k ∧ σ 512 k < σ 512 i ∧ ofM σ r th ki D i)) ∧ L_M_findCurrent_31 K f (some (ad 100 0)) (nI r) th ki D p5 (nI k) 1 (nI (j + 1)) mm = K (some (ad 100 0)) (nI r) th ki D p5 (nI k) 0 mm) := by
      intro hn
      rcases ih (j + 1) f (by omega) (by omega) with ⟨z1, z2⟩ | ⟨z1, z2⟩
      · left
        refine ⟨fun i i1 i2 => ?_, z2⟩
        by_cases w : i = j
        · subst w; exact hn
        · exact z1 i (by omega) i2
      · right
        exact ⟨fun w => z1 (fun i i1 i2 => w i (by omega) i2), z2⟩
    rw [L_M_findCurrent_31]
    simp only [h.xM, gb1_some, hF.allM, h.a511 (j := j) (by omega), h.a511 (j := k) (by omega), h.a512 (j := j) (by omega), h.a512 (j := k) (by omega), gLet_eq, nI_1]
    rw [if_neg (nI_ge (by omega) (by omega)), if_neg (by decide)]
    by_cases y1 : σ 511 j = σ 511 k
    · rw [if_pos (by rw [y1])]
      by_cases y2 : σ 512 j ≤ σ 512 k
      · rw [if_pos (nI_le y2 (by omega))]
        exact go (fun w => by omega)
      · rw [if_neg (nI_ge (by omega) (by omega))]
        rcases M_isOf h hF hI (r := r) (k := j) hr (by omega) th ki D with ⟨u1, u2⟩ | ⟨u1, u2⟩
        · right
          rw [u2]
          simp only [gb2_some, if_neg (show ¬ (1 : Int32) = 0 by decide)]
          obtain ⟨f, rfl⟩ : ∃ g, f = g + 1 := ⟨f - 1, by omega⟩
          rw [fcIn0 h]
          exact ⟨fun w => w j (by omega) (by omega) ⟨y1, by omega, u1⟩, rfl⟩
        · rw [u2]
          simp only [gb2_some, if_true]
          exact go (fun w => u1 w.2.2)
    · rw [if_neg (fun w => y1 ((nI_eq (by omega) (by omega)).mp w))]
      exact go (fun w => y1 w.1)
theorem fcOut (hI : Inv σ τ) {r : Nat} (hr : r < 24) (th ki D : Int32) {K : Int32 → gM → Option (Int32 × gM)} (d : Nat) : ∀ (k f : Nat) (σ' : Nat → Nat → Nat) (τ' : Nat → Nat → Int64) (mm : gM), Rep n0 σ' τ' ad mm → Fr σ σ τ σ' τ' → k + d = σ 501 0 → d < f → CurM σ (ofM σ r th ki D) k (σ' 529) →
    ∃ (σ'' : Nat → Nat → Nat) (mm' : gM), L_M_findCurrent_6 K f (some (ad 100 0)) (nI r) th ki D (nI (sm (σ' 529) k)) (nI k) mm = K (nI (sm (σ'' 529) (σ 501 0))) mm' ∧ mm'.2 = mm.2 ∧ Rep n0 σ'' τ' ad mm' ∧ Fr σ σ τ σ'' τ' ∧ CurM σ (ofM σ r th ki D) (σ 501 0) (σ'' 529) := by
  have e3 := hI.1.2.2.1
  induction d with
  | zero =>
    intro k f σ' τ' mm h hF hk hf hc
    obtain ⟨f, rfl⟩ : ∃ g, f = g + 1 := ⟨f - 1, by omega⟩
    have : k = σ 501 0 := by omega
    subst this
    refine ⟨σ', mm, ?_, rfl, h, hF, hc⟩
    rw [L_M_findCurrent_6]
    simp only [h.xM, gb1_some, hF.allM]
    rw [if_pos (nI_le (by omega) (by omega))]
  | succ d ih =>
    intro k f σ' τ' mm h hF hk hf hc
    obtain ⟨f, rfl⟩ : ∃ g, f = g + 1 := ⟨f - 1, by omega⟩
    rw [L_M_findCurrent_6]
    simp only [h.xM, gb1_some, hF.allM]
    rw [if_neg (nI_ge (by omega) (by omega))]
    obtain ⟨F, hFb, hFe⟩ := gF_big
    rw [hFe]
    have fin : ∀ b : Nat, b ≤ 1 → (b = 1 ↔ cuM σ (ofM σ r th ki D) k) → ∃ (σ'' : Nat → Nat → Nat) (mm' : gM), (gIf (nI b = 0 ∨ nI b = 1) (gb1 (gsI 2 (some (ad 1529 0)) (nI k) (nI b) mm) fun mm43 => if nI b = 0 then L_M_findCurrent_6 K f (some (ad 100 0)) (nI r) th ki D (nI (sm (σ' 529) k) + 0) (nI k + 1) mm43 else L_M_findCurrent_6 K f (some (ad 100 0)) (nI r) th ki D (nI (sm (σ' 529) k) + 1) (nI k + 1) mm43)) = K (nI (sm (σ'' 529) (σ 501 0))) mm' ∧ mm'.2 = mm.2 ∧ Rep n0 σ'' τ' ad mm' ∧ Fr σ σ τ σ'' τ' ∧ CurM σ (ofM σ r th ki D) (σ 501 0) (σ'' 529) := by
      intro b hb hbc
      obtain ⟨mm1, a1, b1, r1⟩ := h.w529 (j := k) (by omega) b
      have hc1 : CurM σ (ofM σ r th ki D) (k + 1) (uS σ' 529 k b 529) := by
        intro i hi
        by_cases w : i = k
        · subst w
          rw [uS_s]
          exact ⟨hb, hbc⟩
        · rw [uS_i w]
          exact hc i (by omega)
      obtain ⟨σ2, mm2, a2, b2, r2, F2, c2⟩ := ih (k + 1) f _ τ' mm1 r1 hF.w529 (by omega) (by omega) hc1
      refine ⟨σ2, mm2, ?_, by rw [b2, b1], r2, F2, c2⟩
      rw [gIf_pos (nI_01 hb), a1, gb1_some]
      have hs : sm (uS σ' 529 k b 529) (k + 1) = sm (σ' 529) k + b := by
        show sm (uS σ' 529 k b 529) k + uS σ' 529 k b 529 k = _
        rw [uS_s, sm_congr (g' := σ' 529) (fun i hi => uS_i (by omega))]
      rw [hs] at a2
      rcases Nat.eq_zero_or_pos b with z | z
      · subst z
        rw [if_pos (show nI 0 = (0 : Int32) from rfl), show nI (sm (σ' 529) k) + (0 : Int32) = nI (sm (σ' 529) k + 0) from nI_add _ 0, nI_1]
        exact a2
      · have : b = 1 := by omega
        subst this
        rw [if_neg (by decide), nI_1, nI_1]
        exact a2
    rcases M_isOf h hF hI hr (k := k) (by omega) th ki D with ⟨u1, u2⟩ | ⟨u1, u2⟩
    · rw [u2]
      simp only [gb2_some]
      rcases fcIn h hF hI hr (k := k) (by omega) th ki D (p5 := nI (sm (σ' 529) k)) (K := fun p0 p1 p2 p3 p4 p5 p6 p7 mm => gb1 (gfR 10 26 p0 mm) fun v41 => gIf (p7 = 0 ∨ p7 = 1) (gb1 (gsI 2 v41 p6 p7 mm) fun mm43 => if p7 = 0 then gLet (p5 + (0 : Int32)) fun x47 => gLet (p6 + 1) fun x48 => L_M_findCurrent_6 K f p0 p1 p2 p3 p4 x47 x48 mm43 else gLet (p5 + (1 : Int32)) fun x49 => gLet (p6 + 1) fun x50 => L_M_findCurrent_6 K f p0 p1 p2 p3 p4 x49 x50 mm43)) (σ 501 0) 0 F (by omega) (by omega) with ⟨z1, z2⟩ | ⟨z1, z2⟩
      · rw [show nI 0 = (0 : Int32) from rfl] at z2
        rw [z2]
        simp only [h.xM, gb1_some, gLet_eq]
        exact fin 1 (by omega) ⟨fun _ => ⟨u1, fun j hj => z1 j (by omega) hj⟩, fun _ => rfl⟩
      · rw [show nI 0 = (0 : Int32) from rfl] at z2
        rw [z2]
        simp only [h.xM, gb1_some, gLet_eq]
        exact fin 0 (by omega) ⟨fun w => by omega, fun w => absurd (fun j _ hj => w.2 j hj) z1⟩
    · rw [u2]
      simp only [gb2_some]
      obtain ⟨F, rfl⟩ : ∃ g, F = g + 1 := ⟨F - 1, by omega⟩
      rw [fcIn0 h]
      simp only [h.xM, gb1_some, gLet_eq]
      exact fin 0 (by omega) ⟨fun w => by omega, fun w => absurd w.1 u1⟩
theorem M_findCurrent (h : Rep n0 σ' τ' ad mm) (hF : Fr σ σ τ σ' τ') (hI : Inv σ τ) {r : Nat} (hr : r < 24) (th ki D : Int32) : ∃ (σ'' : Nat → Nat → Nat) (mm' : gM), F_M_findCurrent (ad 100 0) (nI r) th ki D mm = some (nI (sm (σ'' 529) (σ 501 0)), mm') ∧ mm'.2 = mm.2 ∧ Rep n0 σ'' τ' ad mm' ∧ Fr σ σ τ σ'' τ' ∧ CurM σ (ofM σ r th ki D) (σ 501 0) (σ'' 529) := by
  unfold F_M_findCurrent
  obtain ⟨f, hf, hfe⟩ := gF_big
  have e3 := hI.1.2.2.1
  rw [hfe]
  exact fcOut hI hr th ki D (K := fun p5 mm => some (p5, mm)) (σ 501 0) 0 f σ' τ' mm h hF (by omega) (by omega) (fun k hk => by omega)
end CM
