/-! settledValue, valueOn, isInConflict of the class -/
def Conf (σ : Nat → Nat → Nat) (τ : Nat → Nat → Int64) (q c : Nat) : Prop := ∃ (n : Nat → Nat) (v : Nat → Int64), IsCur σ τ (ofc σ q c 100000) n v ∧ Val σ τ n v q c (-9223372036854775808) ∧ ∃ t, t < 8 ∧ n t ≠ 0
section VS
variable {n0 : Nat} {X σ σ' σ'' : Nat → Nat → Nat} {τ τ' τ'' : Nat → Nat → Int64} {ad : Nat → Nat → Nat} {mm : gM}
theorem m1_sub (x : Int32) : x + (-1) = x - 1 := (Int32.sub_eq_add_neg x 1).symm
theorem S_hasSettling (h : Rep n0 σ τ ad mm) {q e : Nat} (hq : q < 2 * σ 42 2) (he : e < 64) : (bit (τ 1 q) e ∧ F_Holding_hasSettling (ad 21 q) (nI e) mm = some (1, mm)) ∨ (¬ bit (τ 1 q) e ∧ F_Holding_hasSettling (ad 21 q) (nI e) mm = some (0, mm)) := by
  unfold F_Holding_hasSettling
  simp only [h.xHd hq, gb1_some]
  by_cases z : bit (τ 1 q) e
  · left
    rw [if_neg (fun w => (b_has _ he).mp w z)]
    exact ⟨z, rfl⟩
  · right
    rw [if_pos ((b_has _ he).mpr z)]
    exact ⟨z, rfl⟩
theorem settled_loop (h : Rep n0 σ τ ad mm) (h0 : I0 σ) (H8 : ∀ e, e < σ 503 0 → σ 14 e < 128 ∧ σ 15 e < 8 ∧ σ 24 (e * 8 + σ 15 e) ≠ 0 ∧ ∀ t, t < 8 → σ 24 (e * 8 + t) < 10000) {q c : Nat} (hq : q < 2 * σ 502 0) (hc : c < 128) (hb : ∀ t, t < 8 → σ 25 t < 2 ^ 31) {K1 : Option Nat → Option Nat → gM → Option (Int64 × gM)} {K0 : gM → Option (Int64 × gM)} (m : Nat) : ∀ f, m ≤ σ 503 0 → m < f →
    (∃ e, e < m ∧ mde σ τ (σ 25) q c e ∧ (∀ e', e < e' → e' < m → ¬ mde σ τ (σ 25) q c e') ∧ L_S_settledValue_10 K1 K0 f (some (ad 0 0)) (some (ad 21 q)) (nI c) (nI m - 1) mm = K1 (some (ad 0 0)) (some (ad 30 e)) mm) ∨ ((∀ e, e < m → ¬ mde σ τ (σ 25) q c e) ∧ L_S_settledValue_10 K1 K0 f (some (ad 0 0)) (some (ad 21 q)) (nI c) (nI m - 1) mm = K0 mm) := by
  obtain ⟨e1, e2, e3, e4, e5, e6, e7, e8, e9, e10, e11, e12, e13, e14, e15⟩ := id h0
  induction m with
  | zero =>
    intro f hm hf
    obtain ⟨f, rfl⟩ : ∃ g, f = g + 1 := ⟨f - 1, by omega⟩
    right
    refine ⟨fun e he => by omega, ?_⟩
    rw [L_S_settledValue_10, if_pos (by decide)]
  | succ m ih =>
    intro f hm hf
    obtain ⟨f, rfl⟩ : ∃ g, f = g + 1 := ⟨f - 1, by omega⟩
    have hg := h.get (l := 2) (j := m) (by omega) (by omega)
    rw [show 2 * 1000 + m = 2000 + m from rfl, e15 m (by omega), show rek 2 = 30 from rfl] at hg
    obtain ⟨y1, y5, y6, y7⟩ := H8 m (by omega)
    have hn : ¬ mde σ τ (σ 25) q c m → (∃ e, e < m + 1 ∧ mde σ τ (σ 25) q c e ∧ (∀ e', e < e' → e' < m + 1 → ¬ mde σ τ (σ 25) q c e') ∧ L_S_settledValue_10 K1 K0 f (some (ad 0 0)) (some (ad 21 q)) (nI c) (nI m - 1) mm = K1 (some (ad 0 0)) (some (ad 30 e)) mm) ∨ ((∀ e, e < m + 1 → ¬ mde σ τ (σ 25) q c e) ∧ L_S_settledValue_10 K1 K0 f (some (ad 0 0)) (some (ad 21 q)) (nI c) (nI m - 1) mm = K0 mm) := by
      intro hnm
      rcases ih f (by omega) (by omega) with ⟨e, z1, z2, z3, z4⟩ | ⟨z1, z2⟩
      · left
        refine ⟨e, by omega, z2, fun e' u1 u2 => ?_, z4⟩
        by_cases w : e' = m
        · subst w; exact hnm
        · exact z3 e' u1 (by omega)
      · right
        refine ⟨fun e he => ?_, z2⟩
        by_cases w : e = m
        · subst w; exact hnm
        · exact z1 e (by omega)
    rw [L_S_settledValue_10, nI_pred, if_neg (nI_pos (by omega))]
    simp only [h.xS, gb1_some, hg, gb2_some, h.xSe (e := m) (by omega), h.xHd (q := q) (by omega), gLet_eq, m1_sub]
    rcases S_hasSettling h (q := q) (e := m) (by omega) (by omega) with ⟨b, hs⟩ | ⟨b, hs⟩
    · rw [hs]
      simp only [gb2_some, if_neg (show ¬ (1 : Int32) = 0 by decide), h.xS, h.xSe (e := m) (by omega), gb1_some]
      rcases S_made h (e := m) (c := c) (by omega) hc (by omega) (fun t ht => ⟨hb t ht, by have := y7 t ht; omega⟩) with ⟨d1, d2⟩ | ⟨d1, d2⟩
      · rw [d2]
        simp only [gb2_some, if_neg (show ¬ (1 : Int32) = 0 by decide)]
        exact Or.inl ⟨m, by omega, ⟨b, d1⟩, fun e' u1 u2 => by omega, rfl⟩
      · rw [d2]
        simp only [gb2_some, if_true]
        exact hn (fun w => d1 w.2)
    · rw [hs]
      simp only [gb2_some, if_true]
      exact hn (fun w => b w.1)
theorem S_settled (h : Rep n0 σ τ ad mm) (h0 : I0 σ) (H8 : ∀ e, e < σ 503 0 → σ 14 e < 128 ∧ σ 15 e < 8 ∧ σ 24 (e * 8 + σ 15 e) ≠ 0 ∧ ∀ t, t < 8 → σ 24 (e * 8 + t) < 10000) {q c : Nat} (hq : q < 2 * σ 502 0) (hc : c < 128) (hb : ∀ t, t < 8 → σ 25 t < 2 ^ 31) :
    (∃ e, e < σ 503 0 ∧ mde σ τ (σ 25) q c e ∧ (∀ e', e < e' → e' < σ 503 0 → ¬ mde σ τ (σ 25) q c e') ∧ F_S_settledValue (ad 0 0) (some (ad 21 q)) (nI c) mm = some (τ 22 (σ 15 e), mm)) ∨ ((∀ e, e < σ 503 0 → ¬ mde σ τ (σ 25) q c e) ∧ F_S_settledValue (ad 0 0) (some (ad 21 q)) (nI c) mm = some (-9223372036854775808, mm)) := by
  obtain ⟨e1, e2, e3, e4, e5, e6, e7, e8, e9, e10, e11, e12, e13, e14, e15⟩ := id h0
  unfold F_S_settledValue
  obtain ⟨f, hf, hfe⟩ := gF_big
  rw [hfe]
  simp only [h.xS, gb1_some, h.size (l := 2) (by omega), gb2_some, gLet_eq, e11]
  rcases settled_loop h h0 H8 hq hc hb (K1 := fun p0 p4 mm => gb1 (gfR 0 5 p0 mm) fun v35 => gb1 (gfI 6 1 p4 mm) fun v37 => gb1 (grc 8 v35 mm) fun b42 => gb2 (F_Current_valueBy b42 v37 mm) fun v39 mm40 => some (v39, mm40)) (K0 := fun mm => some ((-9223372036854775808 : Int64), mm)) (σ 503 0) f (Nat.le_refl _) (by omega) with ⟨e, z1, z2, z3, z4⟩ | ⟨z1, z2⟩
  · left
    refine ⟨e, z1, z2, z3, ?_⟩
    rw [z4]
    obtain ⟨y1, y5, y6, y7⟩ := H8 e z1
    have hnz : σ 25 (σ 15 e) ≠ 0 := by rw [← z2.2.2 (σ 15 e) y5]; exact y6
    unfold F_Current_valueBy
    simp only [h.xS, h.xSe (e := e) (by omega), gb1_some, S_has h y5 (hb _ y5), gb2_some]
    rw [if_neg (show ¬ nI (nz (σ 25) (σ 15 e)) = 0 by unfold nz; rw [if_neg hnz]; decide)]
    simp only [h.b22 (j := σ 15 e) y5, gb1_some, gb2_some]
  · right
    exact ⟨z1, z2⟩
theorem mde_fr (hF : Fr X σ τ σ' τ') {n : Nat → Nat} {q c e : Nat} : mde σ' τ' n q c e ↔ mde σ τ n q c e := by
  unfold mde
  rw [hF.2.1 1 (by omega), hF.1 14 (by omega) (by omega) (by omega), hF.1 24 (by omega) (by omega) (by omega)]
theorem S_valueOn (h : Rep n0 σ' τ' ad mm) (hF : Fr X σ τ σ' τ') (hI : Inv σ τ) {q c : Nat} (hq : q < 2 * σ 502 0) (hc : c < 128) (D : Int32) : ∃ (σ'' : Nat → Nat → Nat) (τ'' : Nat → Nat → Int64) (mm' : gM) (R : Int64), F_S_valueOn (ad 0 0) (some (ad 21 q)) (nI c) D mm = some (R, mm') ∧ mm'.2 = mm.2 ∧ Rep n0 σ'' τ'' ad mm' ∧ Fr X σ τ σ'' τ'' ∧ IsCur σ τ (ofc σ q c D) (σ'' 25) (τ'' 22) ∧ Val σ τ (σ'' 25) (τ'' 22) q c R := by
  obtain ⟨σ2, τ2, mm2, a2, b2, r2, F2, c2⟩ := S_findCurrent h hF hI hq hc D
  have hnum := fun t (ht : t < 8) => c2.num hI (fun j hj => hj.1) ht
  have I2' : I0 σ2 := hI.1.of (fun f hf => F2.1 f (by omega) (by omega) (by omega))
  have H8 : ∀ e, e < σ2 503 0 → σ2 14 e < 128 ∧ σ2 15 e < 8 ∧ σ2 24 (e * 8 + σ2 15 e) ≠ 0 ∧ ∀ t, t < 8 → σ2 24 (e * 8 + t) < 10000 := by
    rw [F2.1 503 (by omega) (by omega) (by omega), F2.1 14 (by omega) (by omega) (by omega), F2.1 15 (by omega) (by omega) (by omega), F2.1 24 (by omega) (by omega) (by omega)]
    intro e he
    obtain ⟨u1, u2, u3, u4, u5, u6, u7, u8⟩ := hI.2.2.2.2.2.2.2.2.1.2.2.2.1 e he
    exact ⟨by omega, u5, u6, u7⟩
  have e502 : σ2 502 = σ 502 := F2.1 502 (by omega) (by omega) (by omega)
  have e503 : σ2 503 = σ 503 := F2.1 503 (by omega) (by omega) (by omega)
  have e15 : σ2 15 = σ 15 := F2.1 15 (by omega) (by omega) (by omega)
  have set := S_settled r2 I2' H8 (q := q) (c := c) (by rw [e502]; exact hq) hc (fun t ht => by have := (hnum t ht).1; omega)
  simp only [mde_fr F2, e503, e15] at set
  obtain ⟨f, hf, hfe⟩ := gF_big
  have com := common_loop r2 (fun t ht => ⟨by have := (hnum t ht).1; omega, fun z => v_nov ((hnum t ht).2 z)⟩) (K0 := fun mm => some ((-9223372036854775808 : Int64), mm)) (K1 := fun p1 mm => some (p1, mm)) 8 0 f (-9223372036854775808) (by omega) (by omega) (Or.inl ⟨rfl, fun t' z => by omega⟩)
  have run : ∀ V : Int64, F_Current_commonValue (ad 17 0) mm2 = some (V, mm2) → F_S_valueOn (ad 0 0) (some (ad 21 q)) (nI c) D mm = if V = -9223372036854775808 then gb2 (F_S_settledValue (ad 0 0) (some (ad 21 q)) (nI c) mm2) (fun v14 mm15 => some (v14, mm15)) else some (V, mm2) := by
    intro V hV
    unfold F_S_valueOn
    simp only [h.xS, gb1_some, a2, gb2_some, r2.xS, hV]
  have hcv : ∀ V : Int64, L_Current_commonValue_6 (fun mm => some ((-9223372036854775808 : Int64), mm)) (fun p1 mm => some (p1, mm)) f (some (ad 17 0)) (-9223372036854775808) (nI 0) mm2 = some (V, mm2) → F_Current_commonValue (ad 17 0) mm2 = some (V, mm2) := by
    intro V hV
    unfold F_Current_commonValue
    rw [hfe]
    exact hV
  rcases com with ⟨y1, y2⟩ | ⟨y1, y2⟩ | ⟨t0, y1, y2, y3, y4⟩
  · have r := run _ (hcv _ y2)
    rw [if_pos rfl] at r
    rcases set with ⟨e, z1, z2, z3, z4⟩ | ⟨z1, z2⟩
    · rw [z4, gb2_some] at r
      exact ⟨σ2, τ2, mm2, _, r, b2, r2, F2, c2, Or.inr (Or.inr ⟨y1, Or.inl ⟨e, z1, z2, z3, rfl⟩⟩)⟩
    · rw [z2, gb2_some] at r
      exact ⟨σ2, τ2, mm2, _, r, b2, r2, F2, c2, Or.inr (Or.inr ⟨y1, Or.inr ⟨z1, rfl⟩⟩)⟩
  · have r := run _ (hcv _ y2)
    rw [if_pos rfl] at r
    rcases set with ⟨e, z1, z2, z3, z4⟩ | ⟨z1, z2⟩
    · obtain ⟨u1, u2, u3, u4, u5, u6, u7, u8⟩ := hI.2.2.2.2.2.2.2.2.1.2.2.2.1 e z1
      exact absurd (y1 (σ 15 e) u5) (by rw [← z2.2.2 (σ 15 e) u5]; exact u6)
    · rw [z2, gb2_some] at r
      exact ⟨σ2, τ2, mm2, _, r, b2, r2, F2, c2, Or.inl ⟨y1, rfl⟩⟩
  · have r := run _ (hcv _ y4)
    rw [if_neg (v_nov ((hnum t0 y1).2 y2))] at r
    exact ⟨σ2, τ2, mm2, _, r, b2, r2, F2, c2, Or.inr (Or.inl ⟨t0, y1, y2, rfl, y3⟩)⟩
/-- what the current ones are is told by P alone -/
theorem IsCur.uniq (hI : Inv σ τ) {P : Nat → Prop} (hP : ∀ j, P j → j < σ 501 0) {n n' : Nat → Nat} {v v' : Nat → Int64} (h : IsCur σ τ P n v) (h' : IsCur σ τ P n' v') {t : Nat} (ht : t < 8) : n t = n' t ∧ (n t ≠ 0 → v t = v' t) := by
  obtain ⟨h0, h1, h2, h3, h4, -⟩ := hI
  rcases h t ht with ⟨a1, a2⟩ | ⟨k, a1, a2, a3, a4, a5⟩
  · rcases h' t ht with ⟨b1, b2⟩ | ⟨j, b1, b2, b3, b4, b5⟩
    · exact ⟨by omega, fun z => absurd a1 z⟩
    · exact absurd b2 (a2 j b1)
  · rcases h' t ht with ⟨b1, b2⟩ | ⟨j, b1, b2, b3, b4, b5⟩
    · exact absurd a2 (b2 k a1)
    · have q1 := a5 j b1 b2
      have q2 := b5 k a1 a2
      have e : k = j := h4.2 k j (hP k a1) (hP j b1) (by omega) (by omega)
      subst e
      exact ⟨by omega, fun _ => by rw [a4, b4]⟩
theorem Val.congr {n n' : Nat → Nat} {v v' : Nat → Int64} (h15 : ∀ e, e < σ 503 0 → σ 15 e < 8 ∧ σ 24 (e * 8 + σ 15 e) ≠ 0) (e : ∀ t, t < 8 → n t = n' t ∧ (n t ≠ 0 → v t = v' t)) {q c : Nat} {R : Int64} (h : Val σ τ n v q c R) : Val σ τ n' v' q c R := by
  have hm : ∀ x, mde σ τ n' q c x ↔ mde σ τ n q c x := by
    intro x
    unfold mde
    constructor
    · rintro ⟨a1, a2, a3⟩
      exact ⟨a1, a2, fun t ht => by rw [a3 t ht, (e t ht).1]⟩
    · rintro ⟨a1, a2, a3⟩
      exact ⟨a1, a2, fun t ht => by rw [a3 t ht, (e t ht).1]⟩
  rcases h with ⟨a1, a2⟩ | ⟨t, a1, a2, a3, a4⟩ | ⟨⟨t, t', a1, a2, a3, a4, a5⟩, a6⟩
  · exact Or.inl ⟨fun t ht => by rw [← (e t ht).1]; exact a1 t ht, a2⟩
  · refine Or.inr (Or.inl ⟨t, a1, by rw [← (e t a1).1]; exact a2, by rw [a3, (e t a1).2 a2], fun t' h1 h2 => ?_⟩)
    have h3 : n t' ≠ 0 := by rw [(e t' h1).1]; exact h2
    rw [← (e t' h1).2 h3, ← (e t a1).2 a2]
    exact a4 t' h1 h3
  · refine Or.inr (Or.inr ⟨⟨t, t', a1, a2, by rw [← (e t a1).1]; exact a3, by rw [← (e t' a2).1]; exact a4, by rw [← (e t a1).2 a3, ← (e t' a2).2 a4]; exact a5⟩, ?_⟩)
    rcases a6 with ⟨x, c1, c2, c3, c4⟩ | ⟨c1, c2⟩
    · refine Or.inl ⟨x, c1, (hm x).mpr c2, fun e' u1 u2 w => c3 e' u1 u2 ((hm e').mp w), ?_⟩
      obtain ⟨g1, g2⟩ := h15 x c1
      rw [c4, (e _ g1).2 (by rw [← c2.2.2 _ g1]; exact g2)]
    · exact Or.inr ⟨fun x hx w => c1 x hx ((hm x).mp w), c2⟩
theorem Inv.h15 (hI : Inv σ τ) : ∀ e, e < σ 503 0 → σ 15 e < 8 ∧ σ 24 (e * 8 + σ 15 e) ≠ 0 := by
  intro e he
  obtain ⟨u1, u2, u3, u4, u5, u6, u7, u8⟩ := hI.2.2.2.2.2.2.2.2.1.2.2.2.1 e he
  exact ⟨u5, u6⟩
/-- one case settles it for both -/
theorem Conf.iff (hI : Inv σ τ) {q c : Nat} {n : Nat → Nat} {v : Nat → Int64} {R : Int64} (hc : IsCur σ τ (ofc σ q c 100000) n v) (hv : Val σ τ n v q c R) : Conf σ τ q c ↔ (R = -9223372036854775808 ∧ ∃ t, t < 8 ∧ n t ≠ 0) := by
  constructor
  · rintro ⟨n', v', a1, a2, t, a3, a4⟩
    have e := fun t (ht : t < 8) => IsCur.uniq hI (fun j hj => hj.1) a1 hc ht
    exact ⟨hv.uniq (a2.congr hI.h15 e), t, a3, by rw [← (e t a3).1]; exact a4⟩
  · rintro ⟨rfl, h⟩
    exact ⟨n, v, hc, hv, h⟩
theorem S_isInConflict (h : Rep n0 σ' τ' ad mm) (hF : Fr X σ τ σ' τ') (hI : Inv σ τ) {q c : Nat} (hq : q < 2 * σ 502 0) (hc : c < 128) : ∃ (σ'' : Nat → Nat → Nat) (τ'' : Nat → Nat → Int64) (mm' : gM) (w : Nat), F_S_isInConflict (ad 0 0) (some (ad 21 q)) (nI c) mm = some (nI w, mm') ∧ mm'.2 = mm.2 ∧ Rep n0 σ'' τ'' ad mm' ∧ Fr X σ τ σ'' τ'' ∧ w ≤ 1 ∧ (w = 1 ↔ Conf σ τ q c) := by
  obtain ⟨σ2, τ2, mm2, R, a2, b2, r2, F2, c2, v2⟩ := S_valueOn h hF hI hq hc 100000
  have hnum := fun t (ht : t < 8) => c2.num hI (fun j hj => hj.1) ht
  have cf := Conf.iff hI c2 v2
  have hcnt := S_count r2 (fun t ht => by have := (hnum t ht).1; omega)
  have h8 : sm (nz (σ2 25)) 8 ≤ 8 := sm_le (fun i _ => nz_le _ i)
  by_cases z : R = -9223372036854775808
  · by_cases y : sm (nz (σ2 25)) 8 = 0
    · refine ⟨σ2, τ2, mm2, 0, ?_, b2, r2, F2, by omega, ?_⟩
      · unfold F_S_isInConflict
        simp only [h.xS, gb1_some, a2, gb2_some, r2.xS, if_pos z, hcnt, y]
        rw [if_pos (by decide)]
        rfl
      · rw [cf]
        constructor
        · intro w; omega
        · rintro ⟨-, t, u1, u2⟩
          have := sm_zero.mp y t u1
          unfold nz at this
          rw [if_neg u2] at this
          omega
    · refine ⟨σ2, τ2, mm2, 1, ?_, b2, r2, F2, by omega, ?_⟩
      · unfold F_S_isInConflict
        simp only [h.xS, gb1_some, a2, gb2_some, r2.xS, if_pos z, hcnt]
        rw [if_neg (nI_nle (by omega) (by omega))]
        rfl
      · rw [cf]
        refine ⟨fun _ => ⟨z, ?_⟩, fun _ => rfl⟩
        refine Classical.byContradiction (fun w => y (sm_zero.mpr (fun i hi => ?_)))
        unfold nz
        refine if_pos (Classical.byContradiction (fun u => w ⟨i, hi, u⟩))
  · refine ⟨σ2, τ2, mm2, 0, ?_, b2, r2, F2, by omega, ?_⟩
    · unfold F_S_isInConflict
      simp only [h.xS, gb1_some, a2, gb2_some, if_neg z]
      rfl
    · rw [cf]
      constructor
      · intro w; omega
      · rintro ⟨w, -⟩
        exact absurd w z
end VS
