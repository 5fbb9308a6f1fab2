/-! conflict -/
section CF
variable {n0 : Nat} {X σ σ' σ'' : Nat → Nat → Nat} {τ τ' τ'' : Nat → Nat → Int64} {ad : Nat → Nat → Nat} {mm : gM}
/-- conflicts by cell, as 0 and 1 -/
theorem conf_g (σ : Nat → Nat → Nat) (τ : Nat → Nat → Int64) (q : Nat) : ∃ g : Nat → Nat, ∀ c, g c ≤ 1 ∧ (g c = 1 ↔ Conf σ τ q c) := by
  have key : ∀ c, ∃ x : Nat, x ≤ 1 ∧ (x = 1 ↔ Conf σ τ q c) := by
    intro c
    rcases Classical.em (Conf σ τ q c) with z | z
    · exact ⟨1, by omega, ⟨fun _ => z, fun _ => rfl⟩⟩
    · exact ⟨0, by omega, ⟨fun w => by omega, fun w => absurd w z⟩⟩
  exact ⟨fun c => Classical.choose (key c), fun c => Classical.choose_spec (key c)⟩
theorem sm_mono (g : Nat → Nat) (a d : Nat) : sm g a ≤ sm g (a + d) := by
  induction d with
  | zero => exact Nat.le_refl _
  | succ d ih =>
    show sm g a ≤ sm g (a + d) + g (a + d)
    omega
theorem S_cic (hI : Inv σ τ) {q : Nat} (hq : q < 2 * σ 502 0) {g : Nat → Nat} (hg : ∀ c, g c ≤ 1 ∧ (g c = 1 ↔ Conf σ τ q c)) (k : Int32) {K1 : Int32 → gM → Option (Int32 × gM)} {K0 : gM → Option (Int32 × gM)} (d : Nat) : ∀ (c f : Nat) (σ' : Nat → Nat → Nat) (τ' : Nat → Nat → Int64) (mm : gM), Rep n0 σ' τ' ad mm → Fr X σ τ σ' τ' → c + d = 128 → d < f →
    ∃ (σ'' : Nat → Nat → Nat) (τ'' : Nat → Nat → Int64) (mm' : gM), mm'.2 = mm.2 ∧ Rep n0 σ'' τ'' ad mm' ∧ Fr X σ τ σ'' τ'' ∧ ((∃ x, c ≤ x ∧ x < 128 ∧ g x = 1 ∧ k = nI (sm g x) ∧ L_S_cellInConflict_5 K1 K0 f (some (ad 0 0)) (some (ad 21 q)) k (nI (sm g c)) (nI c) mm = K1 (nI x) mm') ∨ ((∀ x, c ≤ x → x < 128 → g x = 1 → k ≠ nI (sm g x)) ∧ L_S_cellInConflict_5 K1 K0 f (some (ad 0 0)) (some (ad 21 q)) k (nI (sm g c)) (nI c) mm = K0 mm')) := by
  induction d with
  | zero =>
    intro c f σ' τ' mm h hF hc hf
    obtain ⟨f, rfl⟩ : ∃ g, f = g + 1 := ⟨f - 1, by omega⟩
    refine ⟨σ', τ', mm, rfl, h, hF, Or.inr ⟨fun x x1 x2 => by omega, ?_⟩⟩
    rw [L_S_cellInConflict_5, if_pos (show (128 : Int32) ≤ nI c from nI_le (a := 128) (by omega) (by omega))]
  | succ d ih =>
    intro c f σ' τ' mm h hF hc hf
    obtain ⟨f, rfl⟩ : ∃ g, f = g + 1 := ⟨f - 1, by omega⟩
    obtain ⟨σ2, τ2, mm2, w, a2, b2, r2, F2, w1, w2⟩ := S_isInConflict h hF hI hq (c := c) (by omega)
    have hgw : g c = w := by
      obtain ⟨g1, g2⟩ := hg c
      rw [← w2] at g2
      omega
    obtain ⟨σ3, τ3, mm3, b3, r3, F3, c3⟩ := ih (c + 1) f σ2 τ2 mm2 r2 F2 (by omega) (by omega)
    have hs : sm g (c + 1) = sm g c + g c := rfl
    have hrun : L_S_cellInConflict_5 K1 K0 (f + 1) (some (ad 0 0)) (some (ad 21 q)) k (nI (sm g c)) (nI c) mm = if nI w = 0 then L_S_cellInConflict_5 K1 K0 f (some (ad 0 0)) (some (ad 21 q)) k (nI (sm g c)) (nI (c + 1)) mm2 else if nI (sm g c) = k then K1 (nI c) mm2 else L_S_cellInConflict_5 K1 K0 f (some (ad 0 0)) (some (ad 21 q)) k (nI (sm g c + 1)) (nI (c + 1)) mm2 := by
      rw [L_S_cellInConflict_5, if_neg (show ¬ (128 : Int32) ≤ nI c from nI_ge (b := 128) (by omega) (by omega))]
      simp only [h.xS, gb1_some, a2, gb2_some, gLet_eq, nI_1]
    rcases Nat.eq_zero_or_pos w with z | z
    · rw [z] at hgw
      rw [hs, hgw, Nat.add_zero] at c3
      rw [z, if_pos (show nI 0 = (0 : Int32) from rfl)] at hrun
      refine ⟨σ3, τ3, mm3, by rw [b3, b2], r3, F3, ?_⟩
      rcases c3 with ⟨x, x1, x2, x3, x4, x5⟩ | ⟨y1, y2⟩
      · exact Or.inl ⟨x, by omega, x2, x3, x4, hrun.trans x5⟩
      · refine Or.inr ⟨fun x x1 x2 x3 => ?_, hrun.trans y2⟩
        by_cases e : x = c
        · subst e; omega
        · exact y1 x (by omega) x2 x3
    · have : w = 1 := by omega
      subst this
      rw [hs, hgw] at c3
      rw [if_neg (by decide)] at hrun
      by_cases e : nI (sm g c) = k
      · rw [if_pos e] at hrun
        exact ⟨σ2, τ2, mm2, b2, r2, F2, Or.inl ⟨c, by omega, by omega, hgw, e.symm, hrun⟩⟩
      · rw [if_neg e] at hrun
        refine ⟨σ3, τ3, mm3, by rw [b3, b2], r3, F3, ?_⟩
        rcases c3 with ⟨x, x1, x2, x3, x4, x5⟩ | ⟨y1, y2⟩
        · exact Or.inl ⟨x, by omega, x2, x3, x4, hrun.trans x5⟩
        · refine Or.inr ⟨fun x x1 x2 x3 => ?_, hrun.trans y2⟩
          by_cases u : x = c
          · subst u; exact fun v => e v.symm
          · exact y1 x (by omega) x2 x3
theorem cdiv (c : Nat) (h : c < 128) : nI c / (8 : Int32) = nI (c / 8) ∧ nI c - nI c / (8 : Int32) * (8 : Int32) = nI (c % 8) := ⟨pk_div (d := 8) (by omega) (by omega) (by omega), pk_rem (d := 8) (by omega) (by omega) (by omega)⟩
theorem M_cic (hI : Inv σ τ) {r : Nat} (hr : r < 24) {g : Nat → Nat} (hg : ∀ c, g c ≤ 1 ∧ (g c = 1 ↔ Conf σ τ (hx r) c)) (k p3 : Int32) {K1 : Option Nat → Int32 → Int32 → Int32 → gM → Option (Int32 × gM)} {K0 : gM → Option (Int32 × gM)} (d : Nat) : ∀ (c f : Nat) (σ' : Nat → Nat → Nat) (τ' : Nat → Nat → Int64) (mm : gM), Rep n0 σ' τ' ad mm → Fr σ σ τ σ' τ' → c + d = 128 → d < f →
    ∃ (σ'' : Nat → Nat → Nat) (mm' : gM), mm'.2 = mm.2 ∧ Rep n0 σ'' τ' ad mm' ∧ Fr σ σ τ σ'' τ' ∧ ((∃ x, c ≤ x ∧ x < 128 ∧ g x = 1 ∧ k = nI (sm g x) ∧ L_M_conflict_29 K1 K0 f (some (ad 100 0)) (nI r) k p3 (nI (sm g c)) (nI c) mm = K1 (some (ad 100 0)) (nI r) p3 (nI x) mm') ∨ ((∀ x, c ≤ x → x < 128 → g x = 1 → k ≠ nI (sm g x)) ∧ L_M_conflict_29 K1 K0 f (some (ad 100 0)) (nI r) k p3 (nI (sm g c)) (nI c) mm = K0 mm')) := by
  induction d with
  | zero =>
    intro c f σ' τ' mm h hF hc hf
    obtain ⟨f, rfl⟩ : ∃ g, f = g + 1 := ⟨f - 1, by omega⟩
    refine ⟨σ', mm, rfl, h, hF, Or.inr ⟨fun x x1 x2 => by omega, ?_⟩⟩
    rw [L_M_conflict_29, if_pos (show (128 : Int32) ≤ nI c from nI_le (a := 128) (by omega) (by omega))]
  | succ d ih =>
    intro c f σ' τ' mm h hF hc hf
    obtain ⟨f, rfl⟩ : ∃ g, f = g + 1 := ⟨f - 1, by omega⟩
    obtain ⟨σ2, mm2, w, a2, b2, r2, F2, w1, w2⟩ := M_isConflict h hF hI hr (c := c) (by omega)
    have hgw : g c = w := by
      obtain ⟨g1, g2⟩ := hg c
      rw [← w2] at g2
      omega
    obtain ⟨σ3, mm3, b3, r3, F3, c3⟩ := ih (c + 1) f σ2 τ' mm2 r2 F2 (by omega) (by omega)
    have hs : sm g (c + 1) = sm g c + g c := rfl
    have hrun : L_M_conflict_29 K1 K0 (f + 1) (some (ad 100 0)) (nI r) k p3 (nI (sm g c)) (nI c) mm = if nI w = 0 then L_M_conflict_29 K1 K0 f (some (ad 100 0)) (nI r) k p3 (nI (sm g c)) (nI (c + 1)) mm2 else if nI (sm g c) = k then K1 (some (ad 100 0)) (nI r) p3 (nI c) mm2 else L_M_conflict_29 K1 K0 f (some (ad 100 0)) (nI r) k p3 (nI (sm g c + 1)) (nI (c + 1)) mm2 := by
      rw [L_M_conflict_29, if_neg (show ¬ (128 : Int32) ≤ nI c from nI_ge (b := 128) (by omega) (by omega)), (cdiv c (by omega)).2, (cdiv c (by omega)).1]
      simp only [h.xM, gb1_some, a2, gb2_some, gLet_eq, nI_1]
    rcases Nat.eq_zero_or_pos w with z | z
    · rw [z] at hgw
      rw [hs, hgw, Nat.add_zero] at c3
      rw [z, if_pos (show nI 0 = (0 : Int32) from rfl)] at hrun
      refine ⟨σ3, mm3, by rw [b3, b2], r3, F3, ?_⟩
      rcases c3 with ⟨x, x1, x2, x3, x4, x5⟩ | ⟨y1, y2⟩
      · exact Or.inl ⟨x, by omega, x2, x3, x4, hrun.trans x5⟩
      · refine Or.inr ⟨fun x x1 x2 x3 => ?_, hrun.trans y2⟩
        by_cases e : x = c
        · subst e; omega
        · exact y1 x (by omega) x2 x3
    · have : w = 1 := by omega
      subst this
      rw [hs, hgw] at c3
      rw [if_neg (by decide)] at hrun
      by_cases e : nI (sm g c) = k
      · rw [if_pos e] at hrun
        exact ⟨σ2, mm2, b2, r2, F2, Or.inl ⟨c, by omega, by omega, hgw, e.symm, hrun⟩⟩
      · rw [if_neg e] at hrun
        refine ⟨σ3, mm3, by rw [b3, b2], r3, F3, ?_⟩
        rcases c3 with ⟨x, x1, x2, x3, x4, x5⟩ | ⟨y1, y2⟩
        · exact Or.inl ⟨x, by omega, x2, x3, x4, hrun.trans x5⟩
        · refine Or.inr ⟨fun x x1 x2 x3 => ?_, hrun.trans y2⟩
          by_cases u : x = c
          · subst u; exact fun v => e v.symm
          · exact y1 x (by omega) x2 x3
theorem sm_inj {g : Nat → Nat} (hg : ∀ c, g c ≤ 1) {x y : Nat} (hx : x < 128) (hy : y < 128) (gx : g x = 1) (gy : g y = 1) (h : nI (sm g x) = nI (sm g y)) : x = y := by
  have b1 := sm_le (g := g) (n := x) (fun i _ => hg i)
  have b2 := sm_le (g := g) (n := y) (fun i _ => hg i)
  have e := (nI_eq (by omega) (by omega)).mp h
  rcases Nat.lt_trichotomy x y with z | z | z
  · have := sm_mono g (x + 1) (y - x - 1)
    rw [show x + 1 + (y - x - 1) = y by omega] at this
    have : sm g (x + 1) = sm g x + g x := rfl
    omega
  · exact z
  · have := sm_mono g (y + 1) (x - y - 1)
    rw [show y + 1 + (x - y - 1) = x by omega] at this
    have : sm g (y + 1) = sm g y + g y := rfl
    omega
theorem S_cell (h : Rep n0 σ' τ' ad mm) (hF : Fr X σ τ σ' τ') (hI : Inv σ τ) {q : Nat} (hq : q < 2 * σ 502 0) {g : Nat → Nat} (hg : ∀ c, g c ≤ 1 ∧ (g c = 1 ↔ Conf σ τ q c)) (k : Int32) : ∃ (σ'' : Nat → Nat → Nat) (τ'' : Nat → Nat → Int64) (mm' : gM), mm'.2 = mm.2 ∧ Rep n0 σ'' τ'' ad mm' ∧ Fr X σ τ σ'' τ'' ∧ ((∃ x, x < 128 ∧ g x = 1 ∧ k = nI (sm g x) ∧ F_S_cellInConflict (ad 0 0) (some (ad 21 q)) k mm = some (nI x, mm')) ∨ ((∀ x, x < 128 → g x = 1 → k ≠ nI (sm g x)) ∧ F_S_cellInConflict (ad 0 0) (some (ad 21 q)) k mm = some (-1, mm'))) := by
  unfold F_S_cellInConflict
  obtain ⟨f, hf, hfe⟩ := gF_big
  rw [hfe]
  obtain ⟨σ2, τ2, mm2, b2, r2, F2, c2⟩ := S_cic hI hq hg k (K1 := fun p4 mm => some (p4, mm)) (K0 := fun mm => some ((-1 : Int32), mm)) 128 0 f σ' τ' mm h hF (by omega) (by omega)
  refine ⟨σ2, τ2, mm2, b2, r2, F2, ?_⟩
  rcases c2 with ⟨x, x1, x2, x3, x4, x5⟩ | ⟨y1, y2⟩
  · exact Or.inl ⟨x, x2, x3, x4, x5⟩
  · exact Or.inr ⟨fun x hx => y1 x (by omega) hx, y2⟩
theorem Step.conflict (h : Rep n0 σ τ ad mm) (hI : Inv σ τ) (a k w : Int32) : Step n0 ad mm (F_S_conflict (ad 0 0) a k w) (F_M_conflict (ad 100 0) a k w) := by
  obtain ⟨h0, h1, h2, h3, h4, h5, h6, h7, h8, h9⟩ := id hI
  obtain ⟨e1, e2, e3, e4, e5, e6, e7, e8, e9, -⟩ := id h0
  rcases stl h h0 a with ⟨hS, hM⟩ | ⟨s, hs, rfl⟩
  · refine Step.same (r := -1) h hI ?_ ?_
    · unfold F_S_conflict
      simp only [h.xS, gb1_some, gb2_some, hS, if_true]
    · unfold F_M_conflict
      simp only [h.xM, gb1_some, gb2_some, hM, if_true]
  have hS := S_setAt_yes h h0 hs
  obtain ⟨g, hg⟩ := conf_g σ τ (2 * s)
  obtain ⟨σ1, τ1, mm1, b1, r1, F1, c1⟩ := S_cell h Fr.refl hI (q := 2 * s) (by omega) hg k
  have hM1 := M_isSet_yes r1 (t := s) (by rw [F1.1 502 (by omega) (by omega) (by omega)]; exact hs) (by rw [F1.1 502 (by omega) (by omega) (by omega)]; exact e9)
  have hgr : ∀ c, g c ≤ 1 ∧ (g c = 1 ↔ Conf σ τ (hx s) c) := by rw [hx_lo (by omega)]; exact hg
  -- what the class does behind its search
  have run : ∀ v : Int32, F_S_cellInConflict (ad 0 0) (some (ad 21 (2 * s))) k mm = some (v, mm1) → F_S_conflict (ad 0 0) (nI s) k w mm = if v = -1 then some (-1, mm1) else if w = 0 then some (v / 8, mm1) else if w = 1 then some (v - v / 8 * 8, mm1) else if w = 2 then gb2 (F_S_findCurrent (ad 0 0) (some (ad 21 (2 * s))) v 100000 mm1) (fun v22 mm23 => gb1 (gfR 0 5 (some (ad 0 0)) mm23) fun v27 => gb1 (grc 8 v27 mm23) fun b32 => gb2 (F_Current_count b32 mm23) fun v29 mm30 => some (v29, mm30)) else some (-1, mm1) := by
    intro v hv
    unfold F_S_conflict
    simp only [h.xS, gb1_some, gb2_some, hS, reduceCtorEq, if_false, h.xSt (s := s) (by omega), hv, r1.xS, r1.xSt (s := s) (by rw [F1.1 42 (by omega) (by omega) (by omega)]; omega)]
  -- what the reference refuses
  have ref : (k < 0 ∨ w < 0 ∨ ¬ w ≤ 2) → F_M_conflict (ad 100 0) (nI s) k w mm1 = some (-1, mm1) := by
    intro hz
    unfold F_M_conflict
    simp only [r1.xM, gb1_some, gb2_some, hM1, if_neg (show ¬ (1 : Int32) = 0 by decide)]
    by_cases z1 : k < 0
    · rw [if_pos z1]
    · rw [if_neg z1]
      by_cases z2 : w < 0
      · rw [if_pos z2]
      · rw [if_neg z2, if_neg ((hz.resolve_left z1).resolve_left z2)]
  by_cases hk : k < 0
  · refine Step.mk0 (r := -1) (mm1 := mm1) (mm2 := mm1) ?_ b1 r1 (ref (Or.inl hk)) rfl r1 (F1.inv hI)
    rcases c1 with ⟨x, x2, x3, x4, x5⟩ | ⟨y1, y2⟩
    · exfalso
      have := sm_le (g := g) (n := x) (fun i _ => (hg i).1)
      rw [x4] at hk
      exact nI_pos (by omega) hk
    · rw [run _ y2, if_pos rfl]
  by_cases hw : w < 0 ∨ ¬ w ≤ 2
  · refine Step.mk0 (r := -1) (mm1 := mm1) (mm2 := mm1) ?_ b1 r1 (ref (Or.inr hw)) rfl r1 (F1.inv hI)
    have n0 : ¬ w = 0 := fun z => by rw [z] at hw; exact absurd hw (by decide)
    have n1 : ¬ w = 1 := fun z => by rw [z] at hw; exact absurd hw (by decide)
    have n2 : ¬ w = 2 := fun z => by rw [z] at hw; exact absurd hw (by decide)
    rcases c1 with ⟨x, x2, x3, x4, x5⟩ | ⟨y1, y2⟩
    · rw [run _ x5, if_neg (c_ne1 x2), if_neg n0, if_neg n1, if_neg n2]
    · rw [run _ y2, if_pos rfl]
  have hw0 : ¬ w < 0 := fun z => hw (Or.inl z)
  have hw2 : w ≤ 2 := Classical.not_not.mp (fun z => hw (Or.inr z))
  obtain ⟨f, hf, hfe⟩ := gF_big
  have refr : ∀ (σa : Nat → Nat → Nat) (τa : Nat → Nat → Int64) (mma : gM), Rep n0 σa τa ad mma → Fr σ σ τ σa τa → ∃ (σb : Nat → Nat → Nat) (mmb : gM), mmb.2 = mma.2 ∧ Rep n0 σb τa ad mmb ∧ Fr σ σ τ σb τa ∧ ((∃ x, x < 128 ∧ g x = 1 ∧ k = nI (sm g x) ∧ F_M_conflict (ad 100 0) (nI s) k w mma = (if w = 0 then some (nI (x / 8), mmb) else if w = 1 then some (nI (x % 8), mmb) else gb2 (F_M_findCurrent (ad 100 0) (nI s) (nI (x / 8)) (nI (x % 8)) 100000 mmb) fun v29 mm30 => some (v29, mm30))) ∨ ((∀ x, x < 128 → g x = 1 → k ≠ nI (sm g x)) ∧ F_M_conflict (ad 100 0) (nI s) k w mma = some (-1, mmb))) := by
    intro σa τa mma ha hFa
    obtain ⟨σ2, mm2, b2, r2, F2, c2⟩ := M_cic hI (r := s) (by omega) hgr k w (K1 := fun p0 p1 p3 p5 mm => if p3 = 0 then some ((p5 / (8 : Int32)), mm) else if p3 = (1 : Int32) then some ((p5 - p5 / (8 : Int32) * (8 : Int32)), mm) else gb1 (grc 10 p0 mm) fun b32 => gb2 (F_M_findCurrent b32 p1 (p5 / (8 : Int32)) (p5 - p5 / (8 : Int32) * (8 : Int32)) (100000 : Int32) mm) fun v29 mm30 => some (v29, mm30)) (K0 := fun mm => some ((-1 : Int32), mm)) 128 0 f σa τa mma ha hFa (by omega) (by omega)
    have hMa := M_isSet_yes ha (t := s) (by rw [hFa.1 502 (by omega) (by omega) (by omega)]; exact hs) (by rw [hFa.1 502 (by omega) (by omega) (by omega)]; exact e9)
    have pre : F_M_conflict (ad 100 0) (nI s) k w mma = L_M_conflict_29 (fun p0 p1 p3 p5 mm => if p3 = 0 then some ((p5 / (8 : Int32)), mm) else if p3 = (1 : Int32) then some ((p5 - p5 / (8 : Int32) * (8 : Int32)), mm) else gb1 (grc 10 p0 mm) fun b32 => gb2 (F_M_findCurrent b32 p1 (p5 / (8 : Int32)) (p5 - p5 / (8 : Int32) * (8 : Int32)) (100000 : Int32) mm) fun v29 mm30 => some (v29, mm30)) (fun mm => some ((-1 : Int32), mm)) f (some (ad 100 0)) (nI s) k w (nI (sm g 0)) (nI 0) mma := by
      unfold F_M_conflict
      rw [hfe]
      simp only [ha.xM, gb1_some, gb2_some, hMa, if_neg (show ¬ (1 : Int32) = 0 by decide), if_neg hk, if_neg hw0, if_pos hw2]
      rfl
    refine ⟨σ2, mm2, b2, r2, F2, ?_⟩
    rcases c2 with ⟨x, x1, x2, x3, x4, x5⟩ | ⟨y1, y2⟩
    · left
      refine ⟨x, x2, x3, x4, ?_⟩
      rw [pre, x5, (cdiv x x2).2, (cdiv x x2).1]
      simp only [r2.xM, gb1_some]
    · right
      exact ⟨fun x hx => y1 x (by omega) hx, pre.trans y2⟩
  rcases c1 with ⟨x, x2, x3, x4, x5⟩ | ⟨y1, y2⟩
  · have r0 := run _ x5
    rw [if_neg (c_ne1 x2), (cdiv x x2).2, (cdiv x x2).1] at r0
    by_cases w0 : w = 0
    · rw [if_pos w0] at r0
      obtain ⟨σ2, mm2, b2, r2, F2, c2⟩ := refr σ1 τ1 mm1 r1 F1
      rcases c2 with ⟨z, z2, z3, z4, z5⟩ | ⟨z1, z2⟩
      · have := sm_inj (fun c => (hg c).1) x2 z2 x3 z3 (x4.symm.trans z4)
        subst this
        rw [if_pos w0] at z5
        exact Step.mk0 r0 b1 r1 z5 b2 r2 (F2.inv hI)
      · exact absurd x4 (z1 x x2 x3)
    rw [if_neg w0] at r0
    by_cases w1 : w = 1
    · rw [if_pos w1] at r0
      obtain ⟨σ2, mm2, b2, r2, F2, c2⟩ := refr σ1 τ1 mm1 r1 F1
      rcases c2 with ⟨z, z2, z3, z4, z5⟩ | ⟨z1, z2⟩
      · have := sm_inj (fun c => (hg c).1) x2 z2 x3 z3 (x4.symm.trans z4)
        subst this
        rw [if_neg w0, if_pos w1] at z5
        exact Step.mk0 r0 b1 r1 z5 b2 r2 (F2.inv hI)
      · exact absurd x4 (z1 x x2 x3)
    have w2 : w = 2 := by
      obtain ⟨j, j1, j2⟩ := nI_of2 (M := 2) (n := 2) rfl hw0 hw2
      have : j = 2 := by
        rcases Nat.lt_or_ge j 2 with z | z
        · rcases Nat.lt_or_ge j 1 with y | y
          · exact absurd (by rw [j2, show j = 0 by omega]; rfl) w0
          · exact absurd (by rw [j2, show j = 1 by omega]; rfl) w1
        · omega
      rw [j2, this]
      rfl
    rw [if_neg w1, if_pos w2] at r0
    obtain ⟨σ3, τ3, mm3, a3, b3, r3, F3, c3⟩ := S_findCurrent r1 F1 hI (q := 2 * s) (c := x) (by omega) x2 100000
    have hnum := fun t (ht : t < 8) => (c3.num hI (fun j hj => hj.1) ht).1
    rw [a3] at r0
    simp only [gb2_some, r3.xS, gb1_some, S_count r3 (fun t ht => by have := hnum t ht; omega)] at r0
    obtain ⟨σ4, mm4, b4, r4, F4, c4⟩ := refr σ3 τ3 mm3 r3 F3
    rcases c4 with ⟨z, z2, z3, z4, z5⟩ | ⟨z1, z2⟩
    · have := sm_inj (fun c => (hg c).1) x2 z2 x3 z3 (x4.symm.trans z4)
      subst this
      obtain ⟨σ5, mm5, a5, b5, r5, F5, c5⟩ := M_findCurrent r4 F4 hI (r := s) (by omega) (nI (x / 8)) (nI (x % 8)) 100000
      rw [if_neg w0, if_neg w1, a5, gb2_some] at z5
      rw [← hx_lo (show s < 12 by omega)] at c3
      rw [(link hI (r := s) (by omega) x2 100000 c3 c5).many hI] at z5
      exact Step.mk0 r0 (by rw [b3, b1]) r3 z5 (by rw [b5, b4]) r5 (F5.inv hI)
    · exact absurd x4 (z1 x x2 x3)
  · have r0 := run _ y2
    rw [if_pos rfl] at r0
    obtain ⟨σ2, mm2, b2, r2, F2, c2⟩ := refr σ1 τ1 mm1 r1 F1
    rcases c2 with ⟨z, z2, z3, z4, z5⟩ | ⟨z1, z2⟩
    · exact absurd z4 (y1 z z2 z3)
    · exact Step.mk0 r0 b1 r1 z2 b2 r2 (F2.inv hI)
end CF
