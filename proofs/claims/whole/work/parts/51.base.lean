/-! the memory's functions at known cells -/
theorem gU_s (mm : gM) (a : Nat) (e : gE) : (gU mm a e).1 a = some e := if_pos rfl
theorem gU_n {mm : gM} {a q : Nat} {e : gE} (h : q ≠ a) : (gU mm a e).1 q = mm.1 q := if_neg h
theorem gN_s (mm : gM) (e : gE) (n : Nat) : (gN mm e n).1 mm.2.1 = some e := if_pos rfl
theorem gN_n {mm : gM} {q n : Nat} {e : gE} (h : q ≠ mm.2.1) : (gN mm e n).1 q = mm.1 q := if_neg h
theorem gfV_eq {mm : gM} {a ci : Nat} {fs : List Value} (h : mm.1 a = some (.inr (ci, fs))) (k : Nat) : gfV ci k (some a) mm = fs[k]? := by
  unfold gfV
  simp only [h, if_true]
theorem gfI_eq {mm : gM} {a ci k : Nat} {fs : List Value} {v : Int32} (h : mm.1 a = some (.inr (ci, fs))) (hk : fs[k]? = some (.int v)) : gfI ci k (some a) mm = some v := by
  unfold gfI
  rw [gfV_eq h, hk]
theorem gfL_eq {mm : gM} {a ci k : Nat} {fs : List Value} {v : Int64} (h : mm.1 a = some (.inr (ci, fs))) (hk : fs[k]? = some (.long v)) : gfL ci k (some a) mm = some v := by
  unfold gfL
  rw [gfV_eq h, hk]
theorem gfR_eq {mm : gM} {a ci k v : Nat} {fs : List Value} (h : mm.1 a = some (.inr (ci, fs))) (hk : fs[k]? = some (.ref v)) : gfR ci k (some a) mm = some (some v) := by
  unfold gfR
  rw [gfV_eq h, hk]
theorem gfR_null {mm : gM} {a ci k : Nat} {fs : List Value} (h : mm.1 a = some (.inr (ci, fs))) (hk : fs[k]? = some .null) : gfR ci k (some a) mm = some none := by
  unfold gfR
  rw [gfV_eq h, hk]
theorem gfR_rf {mm : gM} {a ci k : Nat} {fs : List Value} {r : Option Nat} (h : mm.1 a = some (.inr (ci, fs))) (hk : fs[k]? = some (va_rf r)) : gfR ci k (some a) mm = some r := by
  cases r with
  | none => exact gfR_null h hk
  | some x => exact gfR_eq h hk
theorem gpV_eq {mm : gM} {a ci k : Nat} {fs : List Value} (h : mm.1 a = some (.inr (ci, fs))) (hk : k < fs.length) (v : Value) : gpV ci k (some a) v mm = some (gU mm a (.inr (ci, fs.set k v))) := by
  unfold gpV
  simp only [h, hk, and_self, if_true]
theorem grc_eq {mm : gM} {a ci : Nat} {fs : List Value} (h : mm.1 a = some (.inr (ci, fs))) : grc ci (some a) mm = some a := by
  unfold grc
  simp only [h, if_true]
theorem gcs_eq {mm : gM} {a ci : Nat} {fs : List Value} (h : mm.1 a = some (.inr (ci, fs))) : gcs ci (some a) mm = some () := by
  unfold gcs
  simp only [h, if_true]
theorem gar_eq {mm : gM} {a : Nat} {x : Nat × vp_A} (h : mm.1 a = some (.inl x)) : gar (some a) mm = some x := by
  unfold gar
  simp only [h]
theorem gar_none {mm : gM} {a : Nat} (h : mm.1 a = none) : gar (some a) mm = none := by
  unfold gar
  simp only [h]
theorem glen_eq {mm : gM} {a t n : Nat} {f} (h : mm.1 a = some (.inl (t, n, f))) : glen (some a) mm = some (nI n) := by
  unfold glen
  rw [gar_eq h]
  rfl
theorem glen_st {mm : gM} (h : mm.1 (mm.2.2.2.1 0) = none) : glen (some (mm.2.2.2.1 0)) mm = some 0 := by
  unfold glen
  rw [gar_none h]
  simp only [if_true]
theorem g_in {j n : Nat} (hj : j < n) (hn : n < 2 ^ 31) : ¬ (nI j < 0 ∨ n ≤ (nI j).toNatClampNeg) := nI_in hj hn
theorem gaI_eq {mm : gM} {a t n j : Nat} {f : Nat → Int32} (h : mm.1 a = some (.inl (t, n, .inl f))) (hj : j < n) (hn : n < 2 ^ 31) (ht : t < 100) : gaI t (some a) (nI j) mm = some (f j) := by
  unfold gaI
  rw [gar_eq h]
  simp only
  rw [if_pos ⟨Nat.mod_eq_of_lt ht, g_in hj hn⟩, nI_clamp (by omega)]
theorem gaL_eq {mm : gM} {a t n j : Nat} {f : Nat → Int64} (h : mm.1 a = some (.inl (t, n, .inr (.inl f)))) (hj : j < n) (hn : n < 2 ^ 31) (ht : t < 100) : gaL t (some a) (nI j) mm = some (f j) := by
  unfold gaL
  rw [gar_eq h]
  simp only
  rw [if_pos ⟨Nat.mod_eq_of_lt ht, g_in hj hn⟩, nI_clamp (by omega)]
theorem gaR_eq {mm : gM} {a t n j : Nat} {f : Nat → Option Nat} (h : mm.1 a = some (.inl (t, n, .inr (.inr (.inr (.inr f)))))) (hj : j < n) (hn : n < 2 ^ 31) (ht : t < 100) : gaR t (some a) (nI j) mm = some (f j) := by
  unfold gaR
  rw [gar_eq h]
  simp only
  rw [if_pos ⟨Nat.mod_eq_of_lt ht, g_in hj hn⟩, nI_clamp (by omega)]
theorem gsI_eq {mm : gM} {a t n j : Nat} {f : Nat → Int32} (h : mm.1 a = some (.inl (t, n, .inl f))) (hj : j < n) (hn : n < 2 ^ 31) (x : Int32) : gsI t (some a) (nI j) x mm = some (gU mm a (.inl (t, n, .inl (va_up f j x)))) := by
  unfold gsI
  rw [gar_eq h]
  simp only
  rw [if_pos ⟨trivial, g_in hj hn⟩, nI_clamp (by omega)]
  rfl
theorem gsL_eq {mm : gM} {a t n j : Nat} {f : Nat → Int64} (h : mm.1 a = some (.inl (t, n, .inr (.inl f)))) (hj : j < n) (hn : n < 2 ^ 31) (x : Int64) : gsL t (some a) (nI j) x mm = some (gU mm a (.inl (t, n, .inr (.inl (va_up f j x))))) := by
  unfold gsL
  rw [gar_eq h]
  simp only
  rw [if_pos ⟨trivial, g_in hj hn⟩, nI_clamp (by omega)]
  rfl
theorem gsR_eq {mm : gM} {a t n j : Nat} {cs : List Nat} {f : Nat → Option Nat} (h : mm.1 a = some (.inl (t, n, .inr (.inr (.inr (.inr f)))))) (hj : j < n) (hn : n < 2 ^ 31) {v : Option Nat} (hv : gok cs v mm = true) : gsR t cs (some a) (nI j) v mm = some (gU mm a (.inl (t, n, .inr (.inr (.inr (.inr (va_up f j v))))))) := by
  unfold gsR
  rw [gar_eq h]
  simp only
  rw [if_pos ⟨trivial, g_in hj hn, hv⟩, nI_clamp (by omega)]
  rfl
theorem gok_eq {cs : List Nat} {mm : gM} {b ci : Nat} {fs : List Value} (h : mm.1 b = some (.inr (ci, fs))) (hc : cs.contains ci = true) : gok cs (some b) mm = true := by
  unfold gok
  simp only [h]
  exact hc
theorem gnI_eq {mm : gM} {n : Nat} (t : Nat) (h : n ≤ 100000) : gnI t (nI n) mm = some (some mm.2.1, gN mm (.inl (t, n, .inl (fun _ => 0))) n) := by
  unfold gnI
  have e : (nI n).toNatClampNeg = n := nI_clamp (by omega)
  rw [e, if_neg (fun z => z.elim (nI_pos (by omega)) (by omega))]
theorem gnL_eq {mm : gM} {n : Nat} (t : Nat) (h : n ≤ 100000) : gnL t (nI n) mm = some (some mm.2.1, gN mm (.inl (t, n, .inr (.inl (fun _ => 0)))) n) := by
  unfold gnL
  have e : (nI n).toNatClampNeg = n := nI_clamp (by omega)
  rw [e, if_neg (fun z => z.elim (nI_pos (by omega)) (by omega))]
theorem gnR_eq {mm : gM} {n : Nat} (t : Nat) (h : n ≤ 100000) : gnR t (nI n) mm = some (some mm.2.1, gN mm (.inl (t, n, .inr (.inr (.inr (.inr (fun _ => none)))))) n) := by
  unfold gnR
  have e : (nI n).toNatClampNeg = n := nI_clamp (by omega)
  rw [e, if_neg (fun z => z.elim (nI_pos (by omega)) (by omega))]
theorem gcR_eq {mm : gM} {a0 a1 t n0 n1 sp dp n : Nat} {cs : List Nat} {f g : Nat → Option Nat} (h0 : mm.1 a0 = some (.inl (t, n0, .inr (.inr (.inr (.inr f)))))) (h1 : mm.1 a1 = some (.inl (t, n1, .inr (.inr (.inr (.inr g)))))) (ht : t < 100) (hs : sp + n ≤ n0) (hd : dp + n ≤ n1) (hn0 : n0 < 2 ^ 31) (hn1 : n1 < 2 ^ 31) (hok : ∀ i, i < n → gok cs (f (sp + i)) mm = true) : gcR t cs (some a0) (nI sp) (some a1) (nI dp) (nI n) mm = some (gU mm a1 (.inl (t, n1, .inr (.inr (.inr (.inr (va_cpy f g sp dp n))))))) := by
  unfold gcR
  rw [gar_eq h0]
  simp only
  rw [gar_eq h1]
  simp only
  have e1 : (nI sp).toNatClampNeg = sp := nI_clamp (by omega)
  have e2 : (nI dp).toNatClampNeg = dp := nI_clamp (by omega)
  have e3 : (nI n).toNatClampNeg = n := nI_clamp (by omega)
  rw [e1, e2, e3, if_pos ⟨Nat.mod_eq_of_lt ht, trivial, nI_pos (by omega), nI_pos (by omega), nI_pos (by omega), hs, hd, List.all_eq_true.mpr (fun i hi => hok i (List.mem_range.mp hi))⟩]
  rfl
theorem gcI_eq {mm : gM} {a0 a1 t n0 n1 sp dp n : Nat} {f g : Nat → Int32} (h0 : mm.1 a0 = some (.inl (t, n0, .inl f))) (h1 : mm.1 a1 = some (.inl (t, n1, .inl g))) (ht : t < 100) (hs : sp + n ≤ n0) (hd : dp + n ≤ n1) (hn0 : n0 < 2 ^ 31) (hn1 : n1 < 2 ^ 31) : gcI t (some a0) (nI sp) (some a1) (nI dp) (nI n) mm = some (gU mm a1 (.inl (t, n1, .inl (va_cpy f g sp dp n)))) := by
  unfold gcI
  rw [gar_eq h0]
  simp only
  rw [gar_eq h1]
  simp only
  have e1 : (nI sp).toNatClampNeg = sp := nI_clamp (by omega)
  have e2 : (nI dp).toNatClampNeg = dp := nI_clamp (by omega)
  have e3 : (nI n).toNatClampNeg = n := nI_clamp (by omega)
  rw [e1, e2, e3, if_pos ⟨Nat.mod_eq_of_lt ht, trivial, nI_pos (by omega), nI_pos (by omega), nI_pos (by omega), hs, hd⟩]
  rfl
