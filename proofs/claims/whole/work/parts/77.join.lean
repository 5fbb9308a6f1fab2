/-! join -/
def jn (a b : Nat) : Nat := if a = 0 then (if b = 0 then 0 else 1) else 1
theorem jn_le (a b : Nat) : jn a b ≤ 1 := by
  unfold jn
  split
  · split <;> omega
  · omega
section JO
variable {n0 : Nat} {X σ σ' σ'' : Nat → Nat → Nat} {τ τ' τ'' : Nat → Nat → Int64} {ad : Nat → Nat → Nat} {mm : gM}
theorem take_loop {q q' : Nat} {K : Option Nat → Option Nat → gM → Option (Unit × gM)} (d : Nat) : ∀ (i f : Nat) (σ : Nat → Nat → Nat) (mm : gM), Rep n0 σ τ ad mm → q < 2 * σ 42 2 → q' < 2 * σ 42 2 → (∀ u i, i < 8 → σ 23 (u * 8 + i) ≤ 200) → i + d = 8 → d < f → ∃ (σ' : Nat → Nat → Nat) (mm' : gM), L_Holding_takeAllOf_2 K f (some (ad 21 q)) (some (ad 21 q')) (nI i) mm = K (some (ad 21 q)) (some (ad 21 q')) mm' ∧ mm'.2 = mm.2 ∧ Rep n0 σ' τ ad mm' ∧ (∀ g, g ≠ 23 → σ' g = σ g) ∧ ∀ j, σ' 23 j = if q * 8 + i ≤ j ∧ j < q * 8 + 8 then max (σ 23 j) (σ 23 (q' * 8 + (j - q * 8))) else σ 23 j := by
  induction d with
  | zero =>
    intro i f σ mm h hq hq' hb hi hf
    obtain ⟨f, rfl⟩ : ∃ g, f = g + 1 := ⟨f - 1, by omega⟩
    refine ⟨σ, mm, ?_, rfl, h, fun _ _ => rfl, fun j => ?_⟩
    · rw [L_Holding_takeAllOf_2, if_pos (show (8 : Int32) ≤ nI i from nI_le (a := 8) (by omega) (by omega))]
    · rw [if_neg (by omega)]
  | succ d ih =>
    intro i f σ mm h hq hq' hb hi hf
    obtain ⟨f, rfl⟩ : ∃ g, f = g + 1 := ⟨f - 1, by omega⟩
    have m1 := hb q i (by omega)
    have m2 := hb q' i (by omega)
    obtain ⟨mm1, a1, b1, r1⟩ := h.w23 hq (j := i) (by omega) (max (σ 23 (q * 8 + i)) (σ 23 (q' * 8 + i)))
    obtain ⟨σ', mm', c1, c2, c3, c4, c5⟩ := ih (i + 1) f _ mm1 r1 (by rw [uS_f (by omega)]; exact hq) (by rw [uS_f (by omega)]; exact hq') (fun u t ht => by
      by_cases e : u * 8 + t = q * 8 + i
      · rw [e, uS_s]; omega
      · rw [uS_i e]; exact hb u t ht) (by omega) (by omega)
    refine ⟨σ', mm', ?_, by rw [c2, b1], c3, fun g hg => by rw [c4 g hg, uS_g hg], fun j => ?_⟩
    · rw [L_Holding_takeAllOf_2, if_neg (show ¬ (8 : Int32) ≤ nI i from nI_ge (b := 8) (by omega) (by omega))]
      simp only [h.xHd hq, h.xHd hq', gb1_some, h.a23 hq (j := i) (by omega), h.a23 hq' (j := i) (by omega), gLet_eq, nI_1]
      have hm : (if nI (σ 23 (q * 8 + i)) < nI (σ 23 (q' * 8 + i)) then nI (σ 23 (q' * 8 + i)) else nI (σ 23 (q * 8 + i))) = nI (max (σ 23 (q * 8 + i)) (σ 23 (q' * 8 + i))) := by
        by_cases z : σ 23 (q * 8 + i) < σ 23 (q' * 8 + i)
        · rw [if_pos (nI_lt z (by omega)), Nat.max_eq_right (by omega)]
        · rw [if_neg (nI_nlt (by omega) (by omega)), Nat.max_eq_left (by omega)]
      rw [hm, a1, gb1_some]
      exact c1
    · rw [c5]
      by_cases e : j = q * 8 + i
      · subst e
        rw [if_neg (by omega), if_pos (by omega), uS_s, Nat.add_sub_cancel_left]
      · by_cases w : q * 8 + (i + 1) ≤ j ∧ j < q * 8 + 8
        · rw [if_pos w, if_pos (by omega), uS_i e, uS_i (by omega)]
        · rw [if_neg w, if_neg (by omega), uS_i e]
theorem S_take (h : Rep n0 σ τ ad mm) {q q' : Nat} (hq : q < 2 * σ 42 2) (hq' : q' < 2 * σ 42 2) (hb : ∀ u i, i < 8 → σ 23 (u * 8 + i) ≤ 200) : ∃ (σ' : Nat → Nat → Nat) (mm' : gM), F_Holding_takeAllOf (ad 21 q) (some (ad 21 q')) mm = some ((), mm') ∧ mm'.2 = mm.2 ∧ Rep n0 σ' (uT τ 1 q (τ 1 q ||| τ 1 q')) ad mm' ∧ (∀ g, g ≠ 23 → σ' g = σ g) ∧ ∀ j, σ' 23 j = if q * 8 ≤ j ∧ j < q * 8 + 8 then max (σ 23 j) (σ 23 (q' * 8 + (j - q * 8))) else σ 23 j := by
  obtain ⟨f, hf, hfe⟩ := gF_big
  obtain ⟨σ1, mm1, a1, b1, r1, g1, g2⟩ := take_loop (q := q) (q' := q') (K := fun p0 p1 mm => gb1 (gfL 5 1 p0 mm) fun v16 => gb1 (gfL 5 1 p1 mm) fun v18 => gb1 (gpV 5 1 p0 (.long (v16 ||| v18)) mm) fun mm20 => some ((), mm20)) 8 0 f σ mm h hq hq' hb (by omega) (by omega)
  have hq1 : q < 2 * σ1 42 2 := by rw [g1 42 (by omega)]; exact hq
  have hq1' : q' < 2 * σ1 42 2 := by rw [g1 42 (by omega)]; exact hq'
  obtain ⟨mm2, a2, b2, r2⟩ := r1.putB hq1 (τ 1 q ||| τ 1 q')
  refine ⟨σ1, mm2, ?_, by rw [b2, b1], r2, g1, g2⟩
  unfold F_Holding_takeAllOf
  rw [hfe, show (0 : Int32) = nI 0 from rfl, a1]
  simp only [r1.xHd hq1, r1.xHd hq1', gb1_some, a2]
theorem S_countC (hI : Inv σ τ) {q : Nat} (hq : q < 2 * σ 502 0) {g : Nat → Nat} (hg : ∀ c, g c ≤ 1 ∧ (g c = 1 ↔ Conf σ τ q c)) {K : Int32 → gM → Option (Int32 × gM)} (d : Nat) : ∀ (c f : Nat) (σ' : Nat → Nat → Nat) (τ' : Nat → Nat → Int64) (mm : gM), Rep n0 σ' τ' ad mm → Fr X σ τ σ' τ' → c + d = 128 → d < f →
    ∃ (σ'' : Nat → Nat → Nat) (τ'' : Nat → Nat → Int64) (mm' : gM), mm'.2 = mm.2 ∧ Rep n0 σ'' τ'' ad mm' ∧ Fr X σ τ σ'' τ'' ∧ L_S_countConflicts_4 K f (some (ad 0 0)) (some (ad 21 q)) (nI (sm g c)) (nI c) mm = K (nI (sm g 128)) mm' := by
  induction d with
  | zero =>
    intro c f σ' τ' mm h hF hc hf
    obtain ⟨f, rfl⟩ : ∃ g, f = g + 1 := ⟨f - 1, by omega⟩
    have : c = 128 := by omega
    subst this
    refine ⟨σ', τ', mm, rfl, h, hF, ?_⟩
    rw [L_S_countConflicts_4, if_pos (by decide)]
  | succ d ih =>
    intro c f σ' τ' mm h hF hc hf
    obtain ⟨f, rfl⟩ : ∃ g, f = g + 1 := ⟨f - 1, by omega⟩
    obtain ⟨σ2, τ2, mm2, w, a2, b2, r2, F2, w1, w2⟩ := S_isInConflict h hF hI hq (c := c) (by omega)
    have hgw : g c = w := by
      obtain ⟨g1, g2⟩ := hg c
      rw [← w2] at g2
      omega
    obtain ⟨σ3, τ3, mm3, b3, r3, F3, c3⟩ := ih (c + 1) f σ2 τ2 mm2 r2 F2 (by omega) (by omega)
    refine ⟨σ3, τ3, mm3, by rw [b3, b2], r3, F3, ?_⟩
    · rw [L_S_countConflicts_4, if_neg (show ¬ (128 : Int32) ≤ nI c from nI_ge (b := 128) (by omega) (by omega))]
      simp only [h.xS, gb1_some, a2, gb2_some, gLet_eq, nI_1]
      rw [show sm g (c + 1) = sm g c + g c from rfl, hgw] at c3
      rcases Nat.eq_zero_or_pos w with z | z
      · subst z
        rw [if_pos (show nI 0 = (0 : Int32) from rfl)]
        exact c3
      · have : w = 1 := by omega
        subst this
        rw [if_neg (by decide)]
        exact c3
theorem join_loopA {s o : Nat} (hs : s < 24) (ho : o < 24) {K : Option Nat → Int32 → Int32 → gM → Option (Int32 × gM)} (d : Nat) : ∀ (i f : Nat) (σ : Nat → Nat → Nat) (mm : gM), Rep n0 σ τ ad mm → (∀ r k, r < 24 → k < 200 → σ 516 (r * 200 + k) ≤ 1) → i + d = 200 → d < f → ∃ (σ' : Nat → Nat → Nat) (mm' : gM), L_M_join_20 K f (some (ad 100 0)) (nI s) (nI o) (nI i) mm = K (some (ad 100 0)) (nI s) (nI o) mm' ∧ mm'.2 = mm.2 ∧ Rep n0 σ' τ ad mm' ∧ (∀ g, g ≠ 516 → σ' g = σ g) ∧ ∀ j, σ' 516 j = if s * 200 + i ≤ j ∧ j < s * 200 + 200 then jn (σ 516 j) (σ 516 (o * 200 + (j - s * 200))) else σ 516 j := by
  induction d with
  | zero =>
    intro i f σ mm h hb hi hf
    obtain ⟨f, rfl⟩ : ∃ g, f = g + 1 := ⟨f - 1, by omega⟩
    refine ⟨σ, mm, ?_, rfl, h, fun _ _ => rfl, fun j => ?_⟩
    · rw [L_M_join_20, if_pos (show (200 : Int32) ≤ nI i from nI_le (a := 200) (by omega) (by omega))]
    · rw [if_neg (by omega)]
  | succ d ih =>
    intro i f σ mm h hb hi hf
    obtain ⟨f, rfl⟩ : ∃ g, f = g + 1 := ⟨f - 1, by omega⟩
    have m1 := hb s i hs (by omega)
    have m2 := hb o i ho (by omega)
    obtain ⟨mm1, a1, b1, r1⟩ := h.w516 (j := s * 200 + i) (by omega) (jn (σ 516 (s * 200 + i)) (σ 516 (o * 200 + i)))
    obtain ⟨σ', mm', c1, c2, c3, c4, c5⟩ := ih (i + 1) f _ mm1 r1 (fun r k hr hk => by
      by_cases e : r * 200 + k = s * 200 + i
      · rw [e, uS_s]; exact jn_le _ _
      · rw [uS_i e]; exact hb r k hr hk) (by omega) (by omega)
    refine ⟨σ', mm', ?_, by rw [c2, b1], c3, fun g hg => by rw [c4 g hg, uS_g hg], fun j => ?_⟩
    · rw [L_M_join_20, if_neg (show ¬ (200 : Int32) ≤ nI i from nI_ge (b := 200) (by omega) (by omega))]
      simp only [h.xM, gb1_some, ix200, h.a516 (j := s * 200 + i) (by omega), h.a516 (j := o * 200 + i) (by omega), gLet_eq, nI_1]
      unfold jn at a1
      by_cases z1 : σ 516 (s * 200 + i) = 0
      · rw [if_pos z1] at a1
        rw [if_pos (by rw [z1]; rfl)]
        by_cases z2 : σ 516 (o * 200 + i) = 0
        · rw [if_pos z2, show nI 0 = (0 : Int32) from rfl] at a1
          rw [if_pos (by rw [z2]; rfl), a1, gb1_some]
          exact c1
        · rw [if_neg z2, show nI 1 = (1 : Int32) from rfl] at a1
          rw [if_neg (fun w => z2 ((nI_z (by omega)).mp w)), a1, gb1_some]
          exact c1
      · rw [if_neg z1, show nI 1 = (1 : Int32) from rfl] at a1
        rw [if_neg (fun w => z1 ((nI_z (by omega)).mp w)), a1, gb1_some]
        exact c1
    · rw [c5]
      by_cases e : j = s * 200 + i
      · subst e
        rw [if_neg (by omega), if_pos (by omega), uS_s, Nat.add_sub_cancel_left]
      · by_cases w : s * 200 + (i + 1) ≤ j ∧ j < s * 200 + 200
        · rw [if_pos w, if_pos (by omega), uS_i e, uS_i (by omega)]
        · rw [if_neg w, if_neg (by omega), uS_i e]
theorem join_loopB {s o : Nat} (hs : s < 24) (ho : o < 24) {K : Option Nat → Int32 → gM → Option (Int32 × gM)} (d : Nat) : ∀ (i f : Nat) (σ : Nat → Nat → Nat) (mm : gM), Rep n0 σ τ ad mm → (∀ r k, r < 24 → k < 40 → σ 517 (r * 40 + k) ≤ 1) → i + d = 40 → d < f → ∃ (σ' : Nat → Nat → Nat) (mm' : gM), L_M_join_82 K f (some (ad 100 0)) (nI s) (nI o) (nI i) mm = K (some (ad 100 0)) (nI s) mm' ∧ mm'.2 = mm.2 ∧ Rep n0 σ' τ ad mm' ∧ (∀ g, g ≠ 517 → σ' g = σ g) ∧ ∀ j, σ' 517 j = if s * 40 + i ≤ j ∧ j < s * 40 + 40 then jn (σ 517 j) (σ 517 (o * 40 + (j - s * 40))) else σ 517 j := by
  induction d with
  | zero =>
    intro i f σ mm h hb hi hf
    obtain ⟨f, rfl⟩ : ∃ g, f = g + 1 := ⟨f - 1, by omega⟩
    refine ⟨σ, mm, ?_, rfl, h, fun _ _ => rfl, fun j => ?_⟩
    · rw [L_M_join_82, if_pos (show (40 : Int32) ≤ nI i from nI_le (a := 40) (by omega) (by omega))]
    · rw [if_neg (by omega)]
  | succ d ih =>
    intro i f σ mm h hb hi hf
    obtain ⟨f, rfl⟩ : ∃ g, f = g + 1 := ⟨f - 1, by omega⟩
    have m1 := hb s i hs (by omega)
    have m2 := hb o i ho (by omega)
    obtain ⟨mm1, a1, b1, r1⟩ := h.w517 (j := s * 40 + i) (by omega) (jn (σ 517 (s * 40 + i)) (σ 517 (o * 40 + i)))
    obtain ⟨σ', mm', c1, c2, c3, c4, c5⟩ := ih (i + 1) f _ mm1 r1 (fun r k hr hk => by
      by_cases e : r * 40 + k = s * 40 + i
      · rw [e, uS_s]; exact jn_le _ _
      · rw [uS_i e]; exact hb r k hr hk) (by omega) (by omega)
    refine ⟨σ', mm', ?_, by rw [c2, b1], c3, fun g hg => by rw [c4 g hg, uS_g hg], fun j => ?_⟩
    · rw [L_M_join_82, if_neg (show ¬ (40 : Int32) ≤ nI i from nI_ge (b := 40) (by omega) (by omega))]
      simp only [h.xM, gb1_some, ix40, h.a517 (j := s * 40 + i) (by omega), h.a517 (j := o * 40 + i) (by omega), gLet_eq, nI_1]
      unfold jn at a1
      by_cases z1 : σ 517 (s * 40 + i) = 0
      · rw [if_pos z1] at a1
        rw [if_pos (by rw [z1]; rfl)]
        by_cases z2 : σ 517 (o * 40 + i) = 0
        · rw [if_pos z2, show nI 0 = (0 : Int32) from rfl] at a1
          rw [if_pos (by rw [z2]; rfl), a1, gb1_some]
          exact c1
        · rw [if_neg z2, show nI 1 = (1 : Int32) from rfl] at a1
          rw [if_neg (fun w => z2 ((nI_z (by omega)).mp w)), a1, gb1_some]
          exact c1
      · rw [if_neg z1, show nI 1 = (1 : Int32) from rfl] at a1
        rw [if_neg (fun w => z1 ((nI_z (by omega)).mp w)), a1, gb1_some]
        exact c1
    · rw [c5]
      by_cases e : j = s * 40 + i
      · subst e
        rw [if_neg (by omega), if_pos (by omega), uS_s, Nat.add_sub_cancel_left]
      · by_cases w : s * 40 + (i + 1) ≤ j ∧ j < s * 40 + 40
        · rw [if_pos w, if_pos (by omega), uS_i e, uS_i (by omega)]
        · rw [if_neg w, if_neg (by omega), uS_i e]
theorem M_countC (hI : Inv σ τ) {r : Nat} (hr : r < 24) {g : Nat → Nat} (hg : ∀ c, g c ≤ 1 ∧ (g c = 1 ↔ Conf σ τ (hx r) c)) {K : Int32 → gM → Option (Int32 × gM)} (d : Nat) : ∀ (c f : Nat) (σ' : Nat → Nat → Nat) (τ' : Nat → Nat → Int64) (mm : gM), Rep n0 σ' τ' ad mm → Fr σ σ τ σ' τ' → c + d = 128 → d < f →
    ∃ (σ'' : Nat → Nat → Nat) (mm' : gM), mm'.2 = mm.2 ∧ Rep n0 σ'' τ' ad mm' ∧ Fr σ σ τ σ'' τ' ∧ L_M_join_143 K f (some (ad 100 0)) (nI r) (nI (sm g c)) (nI c) mm = K (nI (sm g 128)) mm' := by
  induction d with
  | zero =>
    intro c f σ' τ' mm h hF hc hf
    obtain ⟨f, rfl⟩ : ∃ g, f = g + 1 := ⟨f - 1, by omega⟩
    have : c = 128 := by omega
    subst this
    refine ⟨σ', mm, rfl, h, hF, ?_⟩
    rw [L_M_join_143, if_pos (by decide)]
  | succ d ih =>
    intro c f σ' τ' mm h hF hc hf
    obtain ⟨f, rfl⟩ : ∃ g, f = g + 1 := ⟨f - 1, by omega⟩
    obtain ⟨σ2, mm2, w, a2, b2, r2, F2, w1, w2⟩ := M_isConflict h hF hI hr (c := c) (by omega)
    have hgw : g c = w := by
      obtain ⟨g1, g2⟩ := hg c
      rw [← w2] at g2
      omega
    obtain ⟨σ3, mm3, b3, r3, F3, c3⟩ := ih (c + 1) f σ2 τ' mm2 r2 F2 (by omega) (by omega)
    refine ⟨σ3, mm3, by rw [b3, b2], r3, F3, ?_⟩
    rw [L_M_join_143, if_neg (show ¬ (128 : Int32) ≤ nI c from nI_ge (b := 128) (by omega) (by omega)), (cdiv c (by omega)).2, (cdiv c (by omega)).1]
    simp only [h.xM, gb1_some, a2, gb2_some, gLet_eq, nI_1]
    rw [show sm g (c + 1) = sm g c + g c from rfl, hgw] at c3
    rcases Nat.eq_zero_or_pos w with z | z
    · subst z
      rw [if_pos (show nI 0 = (0 : Int32) from rfl), show nI (sm g c) + (0 : Int32) = nI (sm g c + 0) from nI_add _ 0]
      exact c3
    · have : w = 1 := by omega
      subst this
      rw [if_neg (by decide)]
      exact c3
/-- the joined state -/
theorem Inv.join (hI : Inv σ τ) {s o : Nat} (hs : s < σ 502 0) (ho : o < σ 502 0) (e : ∀ g, g ≠ 23 → g ≠ 516 → g ≠ 517 → σ' g = σ g) (e23 : ∀ j, σ' 23 j = if 2 * s * 8 ≤ j ∧ j < 2 * s * 8 + 8 then max (σ 23 j) (σ 23 (2 * o * 8 + (j - 2 * s * 8))) else σ 23 j) (e516 : ∀ j, σ' 516 j = if s * 200 ≤ j ∧ j < s * 200 + 200 then jn (σ 516 j) (σ 516 (o * 200 + (j - s * 200))) else σ 516 j) (e517 : ∀ j, σ' 517 j = if s * 40 ≤ j ∧ j < s * 40 + 40 then jn (σ 517 j) (σ 517 (o * 40 + (j - s * 40))) else σ 517 j) : Inv σ' (uT τ 1 (2 * s) (τ 1 (2 * s) ||| τ 1 (2 * o))) := by
  obtain ⟨h0, h1, h2, h3, h4, h5, h6, h7, h8, h9⟩ := id hI
  obtain ⟨i1, i2, i3, i4, i5, i6, i7, i8, i9, -⟩ := id h0
  refine hI.g378 (h3.of (fun f hf => e f (by omega) (by omega) (by omega))) ?_ ?_ (fun g z1 z2 z3 z4 z5 => e g z3 z4 z5) (fun g z => uT_g z)
  · obtain ⟨a1, a2, a3⟩ := h7
    unfold I7
    rw [e 40 (by omega) (by omega) (by omega), e 502 (by omega) (by omega) (by omega), e 501 (by omega) (by omega) (by omega), e 5 (by omega) (by omega) (by omega), e 4 (by omega) (by omega) (by omega)]
    have f23 : ∀ u t, t < 8 → σ' 23 (u * 8 + t) = if u = 2 * s then max (σ 23 (2 * s * 8 + t)) (σ 23 (2 * o * 8 + t)) else σ 23 (u * 8 + t) := by
      intro u t ht
      rw [e23]
      by_cases z : u = 2 * s
      · subst z
        rw [if_pos (by omega), if_pos rfl, Nat.add_sub_cancel_left]
      · rw [if_neg (by omega), if_neg z]
    refine ⟨fun u t ht => ?_, fun u t ht hu => ?_, fun r k hr hk => ?_⟩
    · rw [f23 u t ht]
      have m1 := a1 (2 * s) t ht
      have m2 := a1 (2 * o) t ht
      have m3 := a1 u t ht
      split <;> omega
    · rw [f23 u t ht, if_neg (by omega)]
      exact a2 u t ht hu
    · rw [e516]
      by_cases hkN : k < σ 501 0
      · have ht := (h4.1 k hkN).2.1
        rw [f23 _ _ (by omega)]
        by_cases z : r = s
        · subst z
          rw [if_pos (by omega), Nat.add_sub_cancel_left, hx_lo (by omega), if_pos rfl, a3 r k hr hk, a3 o k (by omega) hk, hx_lo (by omega), hx_lo (by omega)]
          unfold jn
          by_cases q1 : σ 5 k < σ 23 (2 * r * 8 + σ 4 k)
          · rw [if_pos (show k < σ 501 0 ∧ σ 5 k < σ 23 (2 * r * 8 + σ 4 k) from ⟨hkN, q1⟩), if_neg (by omega), if_pos ⟨hkN, by omega⟩]
          · rw [if_neg (show ¬ (k < σ 501 0 ∧ σ 5 k < σ 23 (2 * r * 8 + σ 4 k)) from fun w => q1 w.2), if_pos rfl]
            by_cases q2 : σ 5 k < σ 23 (2 * o * 8 + σ 4 k)
            · rw [if_pos (show k < σ 501 0 ∧ σ 5 k < σ 23 (2 * o * 8 + σ 4 k) from ⟨hkN, q2⟩), if_neg (by omega), if_pos ⟨hkN, by omega⟩]
            · rw [if_neg (show ¬ (k < σ 501 0 ∧ σ 5 k < σ 23 (2 * o * 8 + σ 4 k)) from fun w => q2 w.2), if_pos rfl, if_neg (by omega)]
        · have hne : ¬ hx r = 2 * s := by
            unfold hx
            split <;> omega
          rw [if_neg (by omega), if_neg hne, a3 r k hr hk]
      · have hz : ∀ P : Prop, ¬ (k < σ 501 0 ∧ P) := fun P w => hkN w.1
        rw [if_neg (hz _)]
        by_cases z : r = s
        · subst z
          rw [if_pos (by omega), Nat.add_sub_cancel_left, a3 r k hr hk, a3 o k (by omega) hk, if_neg (hz _), if_neg (hz _)]
          rfl
        · rw [if_neg (by omega), a3 r k hr hk, if_neg (hz _)]
  · obtain ⟨w1, w2, w3, w4, w5⟩ := h8
    have q1 : ∀ u, uT τ 1 (2 * s) (τ 1 (2 * s) ||| τ 1 (2 * o)) 1 u = if u = 2 * s then τ 1 (2 * s) ||| τ 1 (2 * o) else τ 1 u := by
      intro u
      simp [uT]
    unfold I8
    rw [e 503 (by omega) (by omega) (by omega), e 502 (by omega) (by omega) (by omega), e 14 (by omega) (by omega) (by omega), e 15 (by omega) (by omega) (by omega), e 519 (by omega) (by omega) (by omega), e 520 (by omega) (by omega) (by omega), e 521 (by omega) (by omega) (by omega), e 24 (by omega) (by omega) (by omega), e 501 (by omega) (by omega) (by omega), e 4 (by omega) (by omega) (by omega), e 6 (by omega) (by omega) (by omega), e 522 (by omega) (by omega) (by omega)]
    refine ⟨fun u x => ?_, fun u hu => ?_, fun r x hr hx' => ?_, w4, w5⟩
    · rw [q1]
      split
      · rw [bit_or]
        exact fun z => z.elim (w1 _ x) (w1 _ x)
      · exact w1 u x
    · rw [q1, if_neg (by omega)]
      exact w2 u hu
    · rw [e517, q1]
      by_cases z : r = s
      · subst z
        rw [if_pos (by omega), Nat.add_sub_cancel_left, hx_lo (by omega), if_pos rfl, bit_or]
        obtain ⟨c1, c2⟩ := w3 r x hr hx'
        obtain ⟨d1, d2⟩ := w3 o x (by omega) hx'
        rw [hx_lo (by omega)] at c2 d2
        rw [← c2, ← d2]
        refine ⟨jn_le _ _, ?_⟩
        unfold jn
        split
        · split <;> omega
        · omega
      · have hne : ¬ hx r = 2 * s := by
          unfold hx
          split <;> omega
        rw [if_neg (by omega), if_neg hne]
        exact w3 r x hr hx'
theorem Step.join (h : Rep n0 σ τ ad mm) (hI : Inv σ τ) (a c : Int32) : Step n0 ad mm (F_S_join (ad 0 0) a c) (F_M_join (ad 100 0) a c) := by
  obtain ⟨h0, h1, h2, h3, h4, h5, h6, h7, h8, h9⟩ := id hI
  obtain ⟨e1, e2, e3, e4, e5, e6, e7, e8, e9, -⟩ := id h0
  rcases stl h h0 a with ⟨hS, hM⟩ | ⟨s, hs, rfl⟩
  · have hset : ∃ w, F_S_setAt (ad 0 0) c mm = some (w, mm) := by
      rcases stl h h0 c with ⟨w, -⟩ | ⟨s, hs, rfl⟩
      · exact ⟨_, w⟩
      · exact ⟨_, S_setAt_yes h h0 hs⟩
    obtain ⟨w, hw⟩ := hset
    refine Step.same (r := -1) h hI ?_ ?_
    · unfold F_S_join
      simp only [h.xS, gb1_some, gb2_some, hS, hw, if_true]
    · unfold F_M_join
      simp only [h.xM, gb1_some, gb2_some, hM, if_true]
  have hS := S_setAt_yes h h0 hs
  have hM := M_isSet_yes h hs e9
  rcases stl h h0 c with ⟨hS2, hM2⟩ | ⟨o, ho, rfl⟩
  · refine Step.same (r := -1) h hI ?_ ?_
    · unfold F_S_join
      simp only [h.xS, gb1_some, gb2_some, hS, hS2, if_true, reduceCtorEq, if_false]
    · unfold F_M_join
      simp only [h.xM, gb1_some, gb2_some, hM, hM2, if_true, if_neg (show ¬ (1 : Int32) = 0 by decide)]
  have hS2 := S_setAt_yes h h0 ho
  have hcnt : ∀ u i, i < 8 → σ 23 (u * 8 + i) ≤ 200 := fun u i hi => by
    have q1 := h7.1 u i hi
    have q2 := h5.2.2.2.1 i
    omega
  obtain ⟨σ1, mm1, a1, b1, r1, g1, g1'⟩ := S_take h (q := 2 * s) (q' := 2 * o) (by omega) (by omega) hcnt
  -- the state when both have joined
  obtain ⟨σb, hσb⟩ : ∃ σb : Nat → Nat → Nat, σb = fun g j => if g = 516 then (if s * 200 ≤ j ∧ j < s * 200 + 200 then jn (σ 516 j) (σ 516 (o * 200 + (j - s * 200))) else σ 516 j) else if g = 517 then (if s * 40 ≤ j ∧ j < s * 40 + 40 then jn (σ 517 j) (σ 517 (o * 40 + (j - s * 40))) else σ 517 j) else σ1 g j := ⟨_, rfl⟩
  have eb : ∀ g, g ≠ 516 → g ≠ 517 → σb g = σ1 g := fun g z1 z2 => by
    funext j
    rw [hσb]
    simp only [if_neg z1, if_neg z2]
  have eb516 : ∀ j, σb 516 j = if s * 200 ≤ j ∧ j < s * 200 + 200 then jn (σ 516 j) (σ 516 (o * 200 + (j - s * 200))) else σ 516 j := fun j => by
    rw [hσb]
    simp only [if_true]
  have eb517 : ∀ j, σb 517 j = if s * 40 ≤ j ∧ j < s * 40 + 40 then jn (σ 517 j) (σ 517 (o * 40 + (j - s * 40))) else σ 517 j := fun j => by
    rw [hσb]
    simp only [if_neg (show ¬ (517 : Nat) = 516 by omega), if_true]
  have Ib : Inv σb (uT τ 1 (2 * s) (τ 1 (2 * s) ||| τ 1 (2 * o))) := hI.join hs ho (fun g z1 z2 z3 => (eb g z2 z3).trans (g1 g z1)) (fun j => by rw [eb 23 (by omega) (by omega)]; exact g1' j) eb516 eb517
  have Fb : Fr σ1 σb (uT τ 1 (2 * s) (τ 1 (2 * s) ||| τ 1 (2 * o))) σ1 (uT τ 1 (2 * s) (τ 1 (2 * s) ||| τ 1 (2 * o))) := ⟨fun g z1 z2 z3 => (eb g z3.1 z3.2).symm, fun _ _ => rfl, rfl, rfl⟩
  have b502 : σb 502 = σ 502 := (eb 502 (by omega) (by omega)).trans (g1 502 (by omega))
  obtain ⟨g, hg⟩ := conf_g σb (uT τ 1 (2 * s) (τ 1 (2 * s) ||| τ 1 (2 * o))) (2 * s)
  obtain ⟨f, hf, hfe⟩ := gF_big
  obtain ⟨σ2, τ2, mm2, b2, r2, F2, c2⟩ := S_countC Ib (q := 2 * s) (by rw [b502]; omega) hg (K := fun p2 mm => some (p2, mm)) 128 0 f σ1 _ mm1 r1 Fb (by omega) (by omega)
  have k2 : ∀ g, g ≠ 25 → g ≠ 529 → g ≠ 516 → g ≠ 517 → g ≠ 23 → σ2 g = σ g := fun g z1 z2 z3 z4 z5 => ((F2.1 g z1 z2 ⟨z3, z4⟩).trans (eb g z3 z4)).trans (g1 g z5)
  have k516 : σ2 516 = σ 516 := F2.2.2.1.trans (g1 516 (by omega))
  have k517 : σ2 517 = σ 517 := F2.2.2.2.trans (g1 517 (by omega))
  obtain ⟨σ3, mm3, a3, b3, r3, g3, g3'⟩ := join_loopA (s := s) (o := o) (by omega) (by omega) (K := fun p0 p1 p2 mm => L_M_join_82 (fun p0 p1 mm => L_M_join_143 (fun p3 mm => some (p3, mm)) f p0 p1 (0 : Int32) (0 : Int32) mm) f p0 p1 p2 (0 : Int32) mm) 200 0 f σ2 mm2 r2 (by rw [k516]; exact h7.le1) (by omega) (by omega)
  obtain ⟨σ4, mm4, a4, b4, r4, g4, g4'⟩ := join_loopB (s := s) (o := o) (by omega) (by omega) (K := fun p0 p1 mm => L_M_join_143 (fun p3 mm => some (p3, mm)) f p0 p1 (0 : Int32) (0 : Int32) mm) 40 0 f σ3 mm3 r3 (by
    rw [g3 517 (by omega), k517]
    exact fun r k hr hk => (h8.2.2.1 r k hr hk).1) (by omega) (by omega)
  have F4 : Fr σb σb (uT τ 1 (2 * s) (τ 1 (2 * s) ||| τ 1 (2 * o))) σ4 τ2 := by
    refine ⟨fun g z1 z2 z3 => ?_, F2.2.1, ?_, ?_⟩
    · rw [g4 g z3.2, g3 g z3.1]
      exact F2.1 g z1 z2 z3
    · funext j
      rw [g4 516 (by omega), g3', k516, eb516, Nat.add_zero]
    · funext j
      rw [g4', g3 517 (by omega), k517, eb517, Nat.add_zero]
  obtain ⟨σ5, mm5, b5, r5, F5, c5⟩ := M_countC Ib (r := s) (by omega) (by rw [hx_lo (by omega)]; exact hg) (K := fun p3 mm => some (p3, mm)) 128 0 f σ4 τ2 mm4 r4 F4 (by omega) (by omega)
  refine Step.mk0 (r := nI (sm g 128)) (σ1 := σ2) (τ1 := τ2) (mm1 := mm2) (mm2 := mm5) ?_ (by rw [b2, b1]) r2 ?_ (by rw [b5, b4, b3]) r5 (F5.inv Ib)
  · unfold F_S_join F_S_countConflicts
    rw [hfe]
    simp only [h.xS, gb1_some, gb2_some, hS, hS2, reduceCtorEq, if_false, h.xSt (s := s) (by omega), h.xSt (s := o) (by omega), h.xHd (q := 2 * s) (by omega), a1, r1.xS, r1.xSt (s := s) (by rw [g1 42 (by omega)]; omega)]
    have c2' : L_S_countConflicts_4 (fun p2 mm => some (p2, mm)) f (some (ad 0 0)) (some (ad 21 (2 * s))) 0 0 mm1 = some (nI (sm g 128), mm2) := c2
    rw [c2', gb2_some]
  · have hM3 := M_isSet_yes r2 (t := s) (by rw [k2 502 (by omega) (by omega) (by omega) (by omega) (by omega)]; exact hs) (by rw [k2 502 (by omega) (by omega) (by omega) (by omega) (by omega)]; exact e9)
    have hM4 := M_isSet_yes r2 (t := o) (by rw [k2 502 (by omega) (by omega) (by omega) (by omega) (by omega)]; exact ho) (by rw [k2 502 (by omega) (by omega) (by omega) (by omega) (by omega)]; exact e9)
    unfold F_M_join
    rw [hfe]
    simp only [r2.xM, gb1_some, gb2_some, hM3, hM4, if_neg (show ¬ (1 : Int32) = 0 by decide)]
    exact (a3.trans a4).trans c5
end JO
