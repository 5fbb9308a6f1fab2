/-! equal -/
section EQ
variable {n0 : Nat} {σ σ' : Nat → Nat → Nat} {τ τ' : Nat → Nat → Int64} {ad : Nat → Nat → Nat} {mm : gM}
theorem same_loop (h : Rep n0 σ τ ad mm) {q q' : Nat} (hq : q < 2 * σ 42 2) (hq' : q' < 2 * σ 42 2) (hb : ∀ u i, i < 8 → σ 23 (u * 8 + i) < 2 ^ 31) {K0 : gM → Option (Int32 × gM)} {K1 : Option Nat → Option Nat → gM → Option (Int32 × gM)} (d : Nat) : ∀ (i f : Nat), i + d = 8 → d < f →
    ((∀ j, i ≤ j → j < 8 → σ 23 (q * 8 + j) = σ 23 (q' * 8 + j)) ∧ L_Holding_isSameAs_2 K0 K1 f (some (ad 21 q)) (some (ad 21 q')) (nI i) mm = K1 (some (ad 21 q)) (some (ad 21 q')) mm) ∨ (¬ (∀ j, i ≤ j → j < 8 → σ 23 (q * 8 + j) = σ 23 (q' * 8 + j)) ∧ L_Holding_isSameAs_2 K0 K1 f (some (ad 21 q)) (some (ad 21 q')) (nI i) mm = K0 mm) := by
  induction d with
  | zero =>
    intro i f hi hf
    obtain ⟨f, rfl⟩ : ∃ g, f = g + 1 := ⟨f - 1, by omega⟩
    left
    refine ⟨fun j j1 j2 => by omega, ?_⟩
    rw [L_Holding_isSameAs_2, if_pos (show (8 : Int32) ≤ nI i from nI_le (a := 8) (by omega) (by omega))]
  | succ d ih =>
    intro i f hi hf
    obtain ⟨f, rfl⟩ : ∃ g, f = g + 1 := ⟨f - 1, by omega⟩
    rw [L_Holding_isSameAs_2, if_neg (show ¬ (8 : Int32) ≤ nI i from nI_ge (b := 8) (by omega) (by omega))]
    simp only [h.xHd hq, h.xHd hq', gb1_some, h.a23 hq (j := i) (by omega), h.a23 hq' (j := i) (by omega), gLet_eq, nI_1]
    by_cases e : σ 23 (q * 8 + i) = σ 23 (q' * 8 + i)
    · rw [if_pos (by rw [e])]
      rcases ih (i + 1) f (by omega) (by omega) with ⟨z1, z2⟩ | ⟨z1, z2⟩
      · left
        refine ⟨fun j j1 j2 => ?_, z2⟩
        by_cases w : j = i
        · subst w; exact e
        · exact z1 j (by omega) j2
      · right
        exact ⟨fun w => z1 (fun j j1 j2 => w j (by omega) j2), z2⟩
    · right
      rw [if_neg (fun z => e ((nI_eq (hb _ _ (by omega)) (hb _ _ (by omega))).mp z))]
      exact ⟨fun w => e (w i (by omega) (by omega)), rfl⟩
theorem S_same (h : Rep n0 σ τ ad mm) {q q' : Nat} (hq : q < 2 * σ 42 2) (hq' : q' < 2 * σ 42 2) (hb : ∀ u i, i < 8 → σ 23 (u * 8 + i) < 2 ^ 31) :
    (((∀ j, j < 8 → σ 23 (q * 8 + j) = σ 23 (q' * 8 + j)) ∧ τ 1 q = τ 1 q') ∧ F_Holding_isSameAs (ad 21 q) (some (ad 21 q')) mm = some (1, mm)) ∨ (¬ ((∀ j, j < 8 → σ 23 (q * 8 + j) = σ 23 (q' * 8 + j)) ∧ τ 1 q = τ 1 q') ∧ F_Holding_isSameAs (ad 21 q) (some (ad 21 q')) mm = some (0, mm)) := by
  unfold F_Holding_isSameAs
  obtain ⟨f, hf, hfe⟩ := gF_big
  rw [hfe, show (0 : Int32) = nI 0 from rfl]
  rcases same_loop h hq hq' hb (K0 := fun mm => some (nI 0, mm)) (K1 := fun p0 p1 mm => gb1 (gfL 5 1 p0 mm) fun v12 => gb1 (gfL 5 1 p1 mm) fun v14 => if v12 = v14 then some ((1 : Int32), mm) else some (nI 0, mm)) 8 0 f (by omega) (by omega) with ⟨z1, z2⟩ | ⟨z1, z2⟩
  · rw [z2]
    simp only [h.xHd hq, h.xHd hq', gb1_some]
    by_cases e : τ 1 q = τ 1 q'
    · left
      exact ⟨⟨fun j hj => z1 j (by omega) hj, e⟩, if_pos e⟩
    · right
      exact ⟨fun w => e w.2, if_neg e⟩
  · right
    exact ⟨fun w => z1 (fun j _ hj => w.1 j hj), z2⟩
theorem equal_loopA (h : Rep n0 σ τ ad mm) {s o : Nat} (hs : s < 24) (ho : o < 24) (hb : ∀ r k, r < 24 → k < 200 → σ 516 (r * 200 + k) ≤ 1) {K : Option Nat → Int32 → Int32 → Int32 → gM → Option (Int32 × gM)} (d : Nat) : ∀ (i f : Nat), i + d = 200 → d + 1 < f →
    ((∀ j, i ≤ j → j < 200 → σ 516 (s * 200 + j) = σ 516 (o * 200 + j)) ∧ L_M_equal_25 K f (some (ad 100 0)) (nI s) (nI o) 1 (nI i) mm = K (some (ad 100 0)) (nI s) (nI o) 1 mm) ∨ (¬ (∀ j, i ≤ j → j < 200 → σ 516 (s * 200 + j) = σ 516 (o * 200 + j)) ∧ L_M_equal_25 K f (some (ad 100 0)) (nI s) (nI o) 1 (nI i) mm = K (some (ad 100 0)) (nI s) (nI o) 0 mm) := by
  induction d with
  | zero =>
    intro i f hi hf
    obtain ⟨f, rfl⟩ : ∃ g, f = g + 1 := ⟨f - 1, by omega⟩
    left
    refine ⟨fun j j1 j2 => by omega, ?_⟩
    rw [L_M_equal_25, if_pos (show (200 : Int32) ≤ nI i from nI_le (a := 200) (by omega) (by omega))]
  | succ d ih =>
    intro i f hi hf
    obtain ⟨f, rfl⟩ : ∃ g, f = g + 1 := ⟨f - 1, by omega⟩
    rw [L_M_equal_25, if_neg (show ¬ (200 : Int32) ≤ nI i from nI_ge (b := 200) (by omega) (by omega)), if_neg (by decide)]
    simp only [h.xM, gb1_some, ix200, h.a516 (j := s * 200 + i) (by omega), h.a516 (j := o * 200 + i) (by omega), gLet_eq, nI_1]
    by_cases e : σ 516 (s * 200 + i) = σ 516 (o * 200 + i)
    · rw [if_pos (by rw [e])]
      rcases ih (i + 1) f (by omega) (by omega) with ⟨z1, z2⟩ | ⟨z1, z2⟩
      · left
        refine ⟨fun j j1 j2 => ?_, z2⟩
        by_cases w : j = i
        · subst w; exact e
        · exact z1 j (by omega) j2
      · right
        exact ⟨fun w => z1 (fun j j1 j2 => w j (by omega) j2), z2⟩
    · right
      have b1 := hb s i hs (by omega)
      have b2 := hb o i ho (by omega)
      rw [if_neg (fun z => e ((nI_eq (by omega) (by omega)).mp z))]
      refine ⟨fun w => e (w i (by omega) (by omega)), ?_⟩
      obtain ⟨f, rfl⟩ : ∃ g, f = g + 1 := ⟨f - 1, by omega⟩
      rw [L_M_equal_25]
      by_cases c : (200 : Int32) ≤ nI (i + 1)
      · rw [if_pos c]
      · rw [if_neg c, if_pos rfl]
theorem equal_loopB (h : Rep n0 σ τ ad mm) {s o : Nat} (hs : s < 24) (ho : o < 24) (hb : ∀ r e, r < 24 → e < 40 → σ 517 (r * 40 + e) ≤ 1) {K : Int32 → gM → Option (Int32 × gM)} (d : Nat) : ∀ (i f : Nat), i + d = 40 → d + 1 < f →
    ((∀ j, i ≤ j → j < 40 → σ 517 (s * 40 + j) = σ 517 (o * 40 + j)) ∧ L_M_equal_81 K f (some (ad 100 0)) (nI s) (nI o) 1 (nI i) mm = K 1 mm) ∨ (¬ (∀ j, i ≤ j → j < 40 → σ 517 (s * 40 + j) = σ 517 (o * 40 + j)) ∧ L_M_equal_81 K f (some (ad 100 0)) (nI s) (nI o) 1 (nI i) mm = K 0 mm) := by
  induction d with
  | zero =>
    intro i f hi hf
    obtain ⟨f, rfl⟩ : ∃ g, f = g + 1 := ⟨f - 1, by omega⟩
    left
    refine ⟨fun j j1 j2 => by omega, ?_⟩
    rw [L_M_equal_81, if_pos (show (40 : Int32) ≤ nI i from nI_le (a := 40) (by omega) (by omega))]
  | succ d ih =>
    intro i f hi hf
    obtain ⟨f, rfl⟩ : ∃ g, f = g + 1 := ⟨f - 1, by omega⟩
    rw [L_M_equal_81, if_neg (show ¬ (40 : Int32) ≤ nI i from nI_ge (b := 40) (by omega) (by omega)), if_neg (by decide)]
    simp only [h.xM, gb1_some, ix40, h.a517 (j := s * 40 + i) (by omega), h.a517 (j := o * 40 + i) (by omega), gLet_eq, nI_1]
    by_cases e : σ 517 (s * 40 + i) = σ 517 (o * 40 + i)
    · rw [if_pos (by rw [e])]
      rcases ih (i + 1) f (by omega) (by omega) with ⟨z1, z2⟩ | ⟨z1, z2⟩
      · left
        refine ⟨fun j j1 j2 => ?_, z2⟩
        by_cases w : j = i
        · subst w; exact e
        · exact z1 j (by omega) j2
      · right
        exact ⟨fun w => z1 (fun j j1 j2 => w j (by omega) j2), z2⟩
    · right
      have b1 := hb s i hs (by omega)
      have b2 := hb o i ho (by omega)
      rw [if_neg (fun z => e ((nI_eq (by omega) (by omega)).mp z))]
      refine ⟨fun w => e (w i (by omega) (by omega)), ?_⟩
      obtain ⟨f, rfl⟩ : ∃ g, f = g + 1 := ⟨f - 1, by omega⟩
      rw [L_M_equal_81]
      by_cases c : (40 : Int32) ≤ nI (i + 1)
      · rw [if_pos c]
      · rw [if_neg c, if_pos rfl]
theorem equal_off {K : Option Nat → Int32 → Int32 → Int32 → gM → Option (Int32 × gM)} {p : Option Nat} {a b : Int32} (f : Nat) : L_M_equal_25 K (f + 1) p a b 0 0 mm = K p a b 0 mm := by
  rw [L_M_equal_25, if_neg (by decide), if_pos rfl]
theorem equal_off2 {K : Int32 → gM → Option (Int32 × gM)} {p : Option Nat} {a b : Int32} (f : Nat) : L_M_equal_81 K (f + 1) p a b 0 0 mm = K 0 mm := by
  rw [L_M_equal_81, if_neg (by decide), if_pos rfl]
theorem M_equal_no (h : Rep n0 σ τ ad mm) {a b : Int32} (hn : F_M_isSet (ad 100 0) a mm = some (0, mm) ∨ (F_M_isSet (ad 100 0) a mm = some (1, mm) ∧ F_M_isSet (ad 100 0) b mm = some (0, mm))) : F_M_equal (ad 100 0) a b mm = some (0, mm) := by
  unfold F_M_equal
  obtain ⟨f, hf, hfe⟩ := gF_big
  obtain ⟨f, rfl⟩ : ∃ g, f = g + 1 := ⟨f - 1, by omega⟩
  rw [hfe]
  rcases hn with z | ⟨z1, z2⟩
  · simp only [h.xM, gb1_some, z, gb2_some, gLet_eq, if_true, equal_off, equal_off2]
    exact gIf_pos (Or.inl trivial)
  · simp only [h.xM, gb1_some, z1, z2, gb2_some, gLet_eq, if_true, equal_off, equal_off2, if_neg (show ¬ (1 : Int32) = 0 by decide)]
    exact gIf_pos (Or.inl trivial)
theorem M_equal_yes (h : Rep n0 σ τ ad mm) {s o : Nat} (hs : s < σ 502 0) (ho : o < σ 502 0) (h12 : σ 502 0 ≤ 12) (hb : ∀ r k, r < 24 → k < 200 → σ 516 (r * 200 + k) ≤ 1) (hb2 : ∀ r e, r < 24 → e < 40 → σ 517 (r * 40 + e) ≤ 1) :
    (((∀ j, j < 200 → σ 516 (s * 200 + j) = σ 516 (o * 200 + j)) ∧ ∀ j, j < 40 → σ 517 (s * 40 + j) = σ 517 (o * 40 + j)) ∧ F_M_equal (ad 100 0) (nI s) (nI o) mm = some (1, mm)) ∨ (¬ ((∀ j, j < 200 → σ 516 (s * 200 + j) = σ 516 (o * 200 + j)) ∧ ∀ j, j < 40 → σ 517 (s * 40 + j) = σ 517 (o * 40 + j)) ∧ F_M_equal (ad 100 0) (nI s) (nI o) mm = some (0, mm)) := by
  unfold F_M_equal
  obtain ⟨f, hf, hfe⟩ := gF_big
  rw [hfe]
  simp only [h.xM, gb1_some, M_isSet_yes h hs h12, M_isSet_yes h ho h12, gb2_some, gLet_eq, if_neg (show ¬ (1 : Int32) = 0 by decide)]
  rcases equal_loopA h (s := s) (o := o) (by omega) (by omega) hb (K := fun p0 p1 p2 p3 mm => L_M_equal_81 (fun p3 mm => gIf (p3 = 0 ∨ p3 = 1) (some (p3, mm))) f p0 p1 p2 p3 (0 : Int32) mm) 200 0 f (by omega) (by omega) with ⟨z1, z2⟩ | ⟨z1, z2⟩
  · rw [show nI 0 = (0 : Int32) from rfl] at z2
    rw [z2]
    rcases equal_loopB h (s := s) (o := o) (by omega) (by omega) hb2 (K := fun p3 mm => gIf (p3 = 0 ∨ p3 = 1) (some (p3, mm))) 40 0 f (by omega) (by omega) with ⟨y1, y2⟩ | ⟨y1, y2⟩
    · left
      rw [show nI 0 = (0 : Int32) from rfl] at y2
      rw [y2, gIf_pos (Or.inr rfl)]
      exact ⟨⟨fun j hj => z1 j (by omega) hj, fun j hj => y1 j (by omega) hj⟩, rfl⟩
    · right
      rw [show nI 0 = (0 : Int32) from rfl] at y2
      rw [y2, gIf_pos (Or.inl rfl)]
      exact ⟨fun w => y1 (fun j _ hj => w.2 j hj), rfl⟩
  · right
    rw [show nI 0 = (0 : Int32) from rfl] at z2
    obtain ⟨f, rfl⟩ : ∃ g, f = g + 1 := ⟨f - 1, by omega⟩
    rw [z2, equal_off2, gIf_pos (Or.inl rfl)]
    exact ⟨fun w => z1 (fun j _ hj => w.1 j hj), rfl⟩
theorem l_ext {x y : Int64} (h : ∀ e, e < 64 → (bit x e ↔ bit y e)) : x = y := by
  apply Int64.toBitVec_inj.mp
  apply BitVec.eq_of_getLsbD_eq
  intro i hi
  have := h i hi
  unfold bit at this
  cases hx : x.toBitVec.getLsbD i <;> cases hy : y.toBitVec.getLsbD i <;> simp_all
theorem hx_lo {r : Nat} (h : r < 12) : hx r = 2 * r := if_pos h
theorem hx_hi (s : Nat) : hx (12 + s) = 2 * s + 1 := by
  unfold hx
  rw [if_neg (by omega)]
  omega
/-- two holdings are the same for the class where they are for the reference -/
theorem hold_same {σ : Nat → Nat → Nat} {τ : Nat → Nat → Int64} (hI : Inv σ τ) {r r' : Nat} (hr : r < 24) (hr' : r' < 24) : ((∀ j, j < 8 → σ 23 (hx r * 8 + j) = σ 23 (hx r' * 8 + j)) ∧ τ 1 (hx r) = τ 1 (hx r')) ↔ ((∀ j, j < 200 → σ 516 (r * 200 + j) = σ 516 (r' * 200 + j)) ∧ ∀ j, j < 40 → σ 517 (r * 40 + j) = σ 517 (r' * 40 + j)) := by
  obtain ⟨h0, h1, h2, h3, h4, h5, h6, ⟨a1, a2, a3⟩, ⟨b1, b2, b3, -, -⟩, h9⟩ := hI
  obtain ⟨e1, e2, e3, e4, e5, e6, e7, e8, e9, e10, e11, e12, -⟩ := h0
  constructor
  · rintro ⟨c1, c2⟩
    refine ⟨fun k hk => ?_, fun e he => ?_⟩
    · rw [a3 r k hr hk, a3 r' k hr' hk]
      by_cases hkN : k < σ 501 0
      · have ht := (h4.1 k hkN).2.1
        rw [c1 (σ 4 k) (by omega)]
      · rw [if_neg (fun w => hkN w.1), if_neg (fun w => hkN w.1)]
    · obtain ⟨d1, d2⟩ := b3 r e hr he
      obtain ⟨d3, d4⟩ := b3 r' e hr' he
      rw [c2] at d2
      have : σ 517 (r * 40 + e) = 1 ↔ σ 517 (r' * 40 + e) = 1 := d2.trans d4.symm
      omega
  · rintro ⟨c1, c2⟩
    have key : ∀ x y, x < 24 → y < 24 → (∀ j, j < 200 → σ 516 (x * 200 + j) = σ 516 (y * 200 + j)) → ∀ t, t < 8 → ¬ σ 23 (hx x * 8 + t) < σ 23 (hx y * 8 + t) := by
      intro x y hx' hy' hh t ht hlt
      have q := a1 (hx y) t ht
      obtain ⟨k, hk, hk1, hk2⟩ := h5.2.1 t (σ 23 (hx x * 8 + t)) (by omega)
      have w := hh k (by omega)
      rw [a3 x k hx' (by omega), a3 y k hy' (by omega), hk1, hk2, if_neg (by omega), if_pos ⟨hk, hlt⟩] at w
      cases w
    refine ⟨fun t ht => ?_, l_ext (fun e he => ?_)⟩
    · have k1 := key r r' hr hr' c1 t ht
      have k2 := key r' r hr' hr (fun j hj => (c1 j hj).symm) t ht
      omega
    · by_cases h40 : e < 40
      · rw [← (b3 r e hr h40).2, ← (b3 r' e hr' h40).2, c2 e h40]
      · exact ⟨fun w => absurd (b1 _ _ w) (by omega), fun w => absurd (b1 _ _ w) (by omega)⟩
theorem I7.cnt (h7 : I7 σ) (h5 : I5 σ) (h0 : I0 σ) : ∀ u i, i < 8 → σ 23 (u * 8 + i) < 2 ^ 31 := by
  intro u i hi
  have q1 := h7.1 u i hi
  have q2 := h5.2.2.2.1 i
  have q3 := h0.2.2.1
  omega
theorem I7.le1 (h7 : I7 σ) : ∀ r k, r < 24 → k < 200 → σ 516 (r * 200 + k) ≤ 1 := by
  intro r k hr hk
  rw [h7.2.2 r k hr hk]
  split <;> omega
theorem Step.equal (h : Rep n0 σ τ ad mm) (hI : Inv σ τ) (a b : Int32) : Step n0 ad mm (F_S_equal (ad 0 0) a b) (F_M_equal (ad 100 0) a b) := by
  obtain ⟨h0, h1, h2, h3, h4, h5, h6, h7, h8, h9⟩ := id hI
  obtain ⟨e1, e2, e3, e4, e5, e6, e7, e8, e9, -⟩ := id h0
  rcases stl h h0 a with ⟨hS, hM⟩ | ⟨s, hs, rfl⟩
  · have hx : ∃ v, F_S_setAt (ad 0 0) b mm = some (v, mm) := by
      rcases stl h h0 b with ⟨w, -⟩ | ⟨s, hs, rfl⟩
      · exact ⟨_, w⟩
      · exact ⟨_, S_setAt_yes h h0 hs⟩
    obtain ⟨v, hv⟩ := hx
    refine Step.same (r := 0) h hI ?_ (M_equal_no h (Or.inl hM))
    unfold F_S_equal
    simp only [h.xS, gb1_some, gb2_some, hS, hv, if_true]
  have hS := S_setAt_yes h h0 hs
  have hM := M_isSet_yes h hs e9
  rcases stl h h0 b with ⟨hS2, hM2⟩ | ⟨o, ho, rfl⟩
  · refine Step.same (r := 0) h hI ?_ (M_equal_no h (Or.inr ⟨hM, hM2⟩))
    unfold F_S_equal
    simp only [h.xS, gb1_some, gb2_some, hS, hS2, if_true, reduceCtorEq, if_false]
  have hS2 := S_setAt_yes h h0 ho
  have cl : ∀ r : Int32, F_Holding_isSameAs (ad 21 (2 * s)) (some (ad 21 (2 * o))) mm = some (r, mm) → (r = 0 ∨ r = 1) → F_S_equal (ad 0 0) (nI s) (nI o) mm = some (r, mm) := by
    intro r hr h01
    unfold F_S_equal
    simp only [h.xS, gb1_some, gb2_some, hS, hS2, reduceCtorEq, if_false, h.xSt (s := s) (by omega), h.xSt (s := o) (by omega), h.xHd (q := 2 * s) (by omega), hr]
    rcases h01 with rfl | rfl
    · rw [if_pos rfl]
    · rw [if_neg (by decide)]
  have hiff := hold_same hI (r := s) (r' := o) (by omega) (by omega)
  rw [hx_lo (by omega), hx_lo (by omega)] at hiff
  rcases S_same h (q := 2 * s) (q' := 2 * o) (by omega) (by omega) (h7.cnt h5 h0) with ⟨z1, z2⟩ | ⟨z1, z2⟩
  · rcases M_equal_yes h hs ho e9 h7.le1 (fun r e hr he => (h8.2.2.1 r e hr he).1) with ⟨y1, y2⟩ | ⟨y1, y2⟩
    · exact Step.same h hI (cl 1 z2 (Or.inr rfl)) y2
    · exact absurd (hiff.mp z1) y1
  · rcases M_equal_yes h hs ho e9 h7.le1 (fun r e hr he => (h8.2.2.1 r e hr he).1) with ⟨y1, y2⟩ | ⟨y1, y2⟩
    · exact absurd (hiff.mpr y1) z1
    · exact Step.same h hI (cl 0 z2 (Or.inl rfl)) y2
end EQ
