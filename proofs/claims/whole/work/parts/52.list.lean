/-! ArrayList, over the memory: the list at b, its array at e, n elements g, room for c -/
def gL (mm : gM) (b e n c : Nat) (g : Nat → Option Nat) : Prop := (∃ m : Int32, mm.1 b = some (.inr (9, [.ref e, .int (nI n), .int m]))) ∧ n ≤ c ∧ c ≤ 1000 ∧ b ≠ e ∧ b < mm.2.1 ∧ e < mm.2.1 ∧
  ((n = 0 ∧ c = 0 ∧ e = mm.2.2.2.1 0 ∧ mm.1 e = none) ∨ (10 ≤ c ∧ mm.1 e = some (.inl (4, c, .inr (.inr (.inr (.inr g)))))))
theorem AL_size_eq {mm : gM} {b e n c : Nat} {g : Nat → Option Nat} (h : gL mm b e n c g) : F_AL_size b mm = some (nI n, mm) := by
  obtain ⟨⟨m, hb⟩, -⟩ := h
  unfold F_AL_size
  rw [gfI_eq hb (k := 1) rfl]
  rfl
theorem AL_isEmpty_eq {mm : gM} {b e n c : Nat} {g : Nat → Option Nat} (h : gL mm b e n c g) : F_AL_isEmpty b mm = some (if n = 0 then 1 else 0, mm) := by
  obtain ⟨⟨m, hb⟩, hn, hc, -⟩ := h
  unfold F_AL_isEmpty
  rw [gfI_eq hb (k := 1) rfl, gb1_some]
  by_cases h0 : n = 0
  · subst h0
    rw [if_pos (show nI 0 = 0 from nI_0), if_pos rfl]
  · rw [if_neg (nI_ne0 (by omega) (by omega)), if_neg h0]
theorem AL_get_eq {mm : gM} {b e n c i : Nat} {g : Nat → Option Nat} (h : gL mm b e n c g) (hi : i < n) : F_AL_get b (nI i) mm = some (g i, mm) := by
  obtain ⟨⟨m, hb⟩, hn, hc, -, -, -, h0 | ⟨-, he⟩⟩ := h
  · omega
  unfold F_AL_get
  rw [gfI_eq hb (k := 1) rfl, gb1_some]
  unfold F_Objects_checkIndex F_Preconditions_checkIndex
  rw [if_neg (nI_pos (by omega)), if_pos (nI_lt hi (by omega)), gb2_some, gb2_some, grc_eq hb, gb1_some]
  unfold F_AL_elementData
  rw [gfR_eq hb (k := 0) rfl, gb1_some, gaR_eq he (by omega) (by omega) (by omega)]
  rfl
/-- how large an array of n places becomes -/
def gcap (c : Nat) : Nat := if c = 0 then 10 else c + c / 2
theorem newLength_eq {mm : gM} {c : Nat} (h : 10 ≤ c) (hc : c ≤ 1000) : F_ArraysSupport_newLength (nI c) (nI (c + 1) - nI c) (nI c >>> ((1 : Int32) &&& 31)) mm = some (nI (c + c / 2), mm) := by
  have es : nI c >>> ((1 : Int32) &&& 31) = nI (c / 2) := by
    have k := pk_shrN (n := c) (by omega) ((1 : Int32) &&& 31) 1 (by decide)
    rw [Nat.pow_one] at k
    exact k
  have ed : nI (c + 1) - nI c = nI 1 := by
    have k := pk_sub (a := c + 1) (b := c) (by omega)
    rw [Nat.add_sub_cancel_left] at k
    exact k
  unfold F_ArraysSupport_newLength
  dsimp only [gLet]
  rw [es, ed, if_pos (nI_lt (show 1 < c / 2 by omega) (by omega)), nI_add]
  rw [if_neg (show ¬ nI (c + c / 2) ≤ (0 : Int32) from nI_nle (by omega) (by omega)), if_neg (show ¬ (2147483639 : Int32) < nI (c + c / 2) from (show ¬ nI 2147483639 < nI (c + c / 2) from nI_nlt (by omega) (by decide)))]
/-- grow: a new array with what was there -/
theorem AL_grow_eq {mm : gM} {b e n c : Nat} {g : Nat → Option Nat} (h : gL mm b e n c g) (hnc : n = c) (hc5 : c ≤ 500) (hok : ∀ j, j < n → gok gObs (g j) mm = true) (hfr : ∀ q, mm.2.1 ≤ q → mm.1 q = none) :
    ∃ (mm' : gM) (g' : Nat → Option Nat), F_AL_grow b mm = some (some mm.2.1, mm') ∧ (∃ m : Int32, mm'.1 b = some (.inr (9, [.ref mm.2.1, .int (nI n), .int m])) ∧ mm.1 b = some (.inr (9, [.ref e, .int (nI n), .int m]))) ∧ mm'.1 mm.2.1 = some (.inl (4, gcap c, .inr (.inr (.inr (.inr g'))))) ∧ (∀ j, j < n → g' j = g j) ∧
      (∀ q, q ≠ b → q ≠ mm.2.1 → mm'.1 q = mm.1 q) ∧ mm'.2 = (mm.2.1 + 1, mm.2.2.1 + gcap c, mm.2.2.2) := by
  obtain ⟨⟨m, hb⟩, hn, hc, hbe, hbl, hel, h0⟩ := h
  have hb1 : (b : Nat) ≠ mm.2.1 := by omega
  unfold F_AL_grow
  rw [gfI_eq hb (k := 1) rfl, gb1_some, grc_eq hb, gb1_some, show nI n + (1 : Int32) = nI (n + 1) from nI_1 n]
  unfold F_AL_grow2
  dsimp only [gLet]
  rw [gfR_eq hb (k := 0) rfl, gb1_some]
  rcases h0 with ⟨rfl, rfl, rfl, he⟩ | ⟨hc10, he⟩
  · rw [glen_st he, gb1_some]
    rw [if_neg (by decide), gb1_some, if_pos rfl]
    rw [if_neg (show ¬ (10 : Int32) < nI (0 + 1) from by decide), show (10 : Int32) = nI 10 from by decide, gnR_eq 4 (by omega), gb2_some]
    have hb' : (gN mm (.inl (4, 10, .inr (.inr (.inr (.inr (fun _ => none)))))) 10).1 b = some (.inr (9, [.ref (mm.2.2.2.1 0), .int (nI 0), .int m])) := by rw [gN_n hb1]; exact hb
    rw [gpV_eq hb' (Nat.le_of_ble_eq_true rfl), gb1_some]
    refine ⟨_, fun _ => none, rfl, ⟨m, ?_, hb⟩, ?_, fun j hj => absurd hj (by omega), fun q h1 h2 => ?_, rfl⟩
    · rw [gU_s]; rfl
    · rw [gU_n (Ne.symm hb1), gN_s]; rfl
    · rw [gU_n h1, gN_n h2]
  · subst hnc
    rw [glen_eq he, gb1_some]
    rw [if_pos (show (0 : Int32) < nI n from (show nI 0 < nI n from nI_lt (by omega) (by omega))), newLength_eq hc10 (by omega), gb2_some, gfR_eq hb (k := 0) rfl, gb1_some]
    unfold F_Arrays_copyOf gmi
    rw [gar_eq he]
    simp only [if_true]
    rw [gb1_some]
    unfold F_Arrays_copyOf2
    dsimp only [gLet]
    rw [if_pos rfl, gnR_eq 4 (by omega), gb2_some]
    have he1 : e ≠ mm.2.1 := by omega
    have he' : (gN mm (.inl (4, n + n / 2, .inr (.inr (.inr (.inr (fun _ => none)))))) (n + n / 2)).1 e = some (.inl (4, n, .inr (.inr (.inr (.inr g))))) := by rw [gN_n he1]; exact he
    have hn' : (gN mm (.inl (4, n + n / 2, .inr (.inr (.inr (.inr (fun _ => none)))))) (n + n / 2)).1 mm.2.1 = some (.inl (4, n + n / 2, .inr (.inr (.inr (.inr (fun _ => none)))))) := gN_s _ _ _
    have hb' : (gN mm (.inl (4, n + n / 2, .inr (.inr (.inr (.inr (fun _ => none)))))) (n + n / 2)).1 b = some (.inr (9, [.ref e, .int (nI n), .int m])) := by rw [gN_n hb1]; exact hb
    rw [glen_eq he', gb1_some, if_neg (nI_nlt (by omega) (by omega)), show (0 : Int32) = nI 0 from by decide]
    rw [gcR_eq (sp := 0) (dp := 0) (n := n) he' hn' (by omega) (by omega) (by omega) (by omega) (by omega) (fun i hi => by
      rw [Nat.zero_add]
      have h1 := hok i hi
      cases hgi : g i with
      | none => rfl
      | some y =>
        rw [hgi] at h1
        obtain ⟨ci, fs, hy, hci⟩ := gok_spec h1
        have hyl : y ≠ mm.2.1 := fun z => by rw [z, hfr _ (Nat.le_refl _)] at hy; cases hy
        exact gok_eq (ci := ci) (fs := fs) (by rw [gN_n hyl]; exact hy) (by simpa using hci))]
    rw [gb1_some, gb2_some, gb2_some]
    have hb2 : (gU (gN mm (.inl (4, n + n / 2, .inr (.inr (.inr (.inr (fun _ => none)))))) (n + n / 2)) mm.2.1 (.inl (4, n + n / 2, .inr (.inr (.inr (.inr (va_cpy g (fun _ => none) 0 0 n))))))).1 b = some (.inr (9, [.ref e, .int (nI n), .int m])) := by rw [gU_n hb1]; exact hb'
    rw [gpV_eq hb2 (Nat.le_of_ble_eq_true rfl), gb1_some]
    have hcap : gcap n = n + n / 2 := if_neg (by omega)
    refine ⟨_, va_cpy g (fun _ => none) 0 0 n, rfl, ⟨m, ?_, hb⟩, ?_, fun j hj => ?_, fun q h1 h2 => ?_, ?_⟩
    · rw [gU_s]; rfl
    · rw [gU_n (Ne.symm hb1), gU_s, hcap]
    · rw [pk_cpy_in (Nat.zero_le j) (by omega), Nat.sub_zero, Nat.zero_add]
    · rw [gU_n h1, gU_n h2, gN_n h2]
    · rw [hcap]; rfl
