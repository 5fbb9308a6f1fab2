/-! An abstract memory (cells by address, next address, slots made), the judgement xX over it, a row an instruction. Own work over the kit's W rows. -/
abbrev gV : Type := Int32 ⊕ Int64 ⊕ Option Nat
def gv : gV → Value
  | .inl x => .int x
  | .inr (.inl x) => .long x
  | .inr (.inr r) => va_rf r
def gc : gV → Nat
  | .inr (.inl _) => 2
  | _ => 1
theorem gv_cat (v : gV) : (gv v).category = gc v := by
  rcases v with x | x | r
  · rfl
  · rfl
  · cases r <;> rfl
def gl (q : Nat × gV) : Nat × Value := (q.1, gv q.2)
abbrev gE : Type := (Nat × vp_A) ⊕ (Nat × List Value)
abbrev gM : Type := (Nat → Option gE) × Nat × Nat × (Nat → Nat) × Nat × (Nat → Int32)
abbrev gD : Type := va_G × List (ClassId × FieldType) × Nat × (Nat → Nat) × Nat × (Nat → Int32)
def gA (E : gD) : Nat → Prop := fun q => E.2.2.1 ≤ q
def g_at (E : gD) (a : Nat) (e : gE) (H : Heap) : Prop := match e with
  | .inl x => (x.1 < 100 → gA E a) ∧ ∃ q : ClassId × FieldType, E.2.1[x.1 % 100]? = some q ∧ H[a]? = some (vp_cell q.1 x.2)
  | .inr o => gA E a ∧ va_at E.1 gCl (a, .inr o) H
def gU (mm : gM) (a : Nat) (e : gE) : gM := (fun q => if q = a then some e else mm.1 q, mm.2)
def gN (mm : gM) (e : gE) (n : Nat) : gM := (fun q => if q = mm.2.1 then some e else mm.1 q, mm.2.1 + 1, mm.2.2.1 + n, mm.2.2.2)
def gH (E : gD) (mm : gM) (H : Heap) : Prop := (H.size = mm.2.1 ∧ E.2.2.1 ≤ mm.2.1 ∧ mm.2.2.2 = E.2.2.2) ∧ ∀ (a : Nat) (e : gE), mm.1 a = some e → g_at E a e H
def gLe (mm res : gM) : Prop := mm.2.1 ≤ res.2.1 ∧ mm.2.2.1 ≤ res.2.2.1
theorem g_at.kept {E : gD} {a : Nat} {e : gE} {H H1 : Heap} (h : g_at E a e H) (hq : H1[a]? = H[a]?) : g_at E a e H1 := by
  cases e with
  | inl x =>
    obtain ⟨h1, q, h2, h3⟩ := h
    exact ⟨h1, q, h2, by rw [hq]; exact h3⟩
  | inr o => exact ⟨h.1, va_at.kept h.2 hq⟩
theorem g_at.lt {E : gD} {a : Nat} {e : gE} {H : Heap} (h : g_at E a e H) : a < H.size := by
  cases e with
  | inl x =>
    obtain ⟨h1, q, h2, h3⟩ := h
    exact (Array.getElem?_eq_some_iff.mp h3).1
  | inr o => exact va_at.lt h.2
theorem gH.put {E : gD} {mm : gM} {a : Nat} {e : gE} {H H1 : Heap} (h : gH E mm H) (he : g_at E a e H1) (hz : H1.size = H.size) (oq : ∀ q : Nat, q ≠ a → H1[q]? = H[q]?) : gH E (gU mm a e) H1 := by
  refine ⟨⟨hz.trans h.1.1, h.1.2⟩, fun b f hb => ?_⟩
  by_cases hba : b = a
  · subst hba
    simp only [gU, if_true] at hb
    cases hb
    exact he
  · simp only [gU, if_neg hba] at hb
    exact (h.2 b f hb).kept (oq b hba)
theorem gH.push {E : gD} {mm : gM} {e : gE} {n : Nat} {H H1 : Heap} (h : gH E mm H) (he : g_at E H.size e H1) (hz : H1.size = H.size + 1) (oq : ∀ q : Nat, q < H.size → H1[q]? = H[q]?) : gH E (gN mm e n) H1 := by
  refine ⟨⟨by rw [hz, h.1.1]; rfl, Nat.le_succ_of_le h.1.2.1, h.1.2.2⟩, fun b f hb => ?_⟩
  by_cases hba : b = mm.2.1
  · subst hba
    simp only [gN, if_true] at hb
    cases hb
    rw [← h.1.1]
    exact he
  · simp only [gN, if_neg hba] at hb
    exact (h.2 b f hb).kept (oq b (h.2 b f hb).lt)
/-! what the tables say, along the whole run -/
abbrev gY : Type := String × String × ByteArray × Cond × Nat × Option FieldType × Nat × Nat
abbrev yO (Y : gY) : String := Y.1
abbrev yN (Y : gY) : String := Y.2.1
abbrev yB (Y : gY) : ByteArray := Y.2.2.1
abbrev yC (Y : gY) : Cond := Y.2.2.2.1
abbrev yL (Y : gY) : Nat := Y.2.2.2.2.1
abbrev yR (Y : gY) : Option FieldType := Y.2.2.2.2.2.1
abbrev yF (Y : gY) : Nat := Y.2.2.2.2.2.2.1
abbrev yW (Y : gY) : Nat := Y.2.2.2.2.2.2.2
def gK (E : gD) (U : State) : Prop := va_K E.1 gCl E.2.1 U ∧ E.2.1.map Prod.snd = gTys ∧
  (∀ q ∈ gNF, va_Nw (.fieldLinkNest q.1 q.2.1 q.2.2.1 q.2.2.2.1 q.2.2.2.2.1 q.2.2.2.2.2) U) ∧
  (∀ q ∈ gNM, va_Nw (.methodLinkNest q.1 q.2.1 q.2.2.1 q.2.2.2) U) ∧
  (∀ q ∈ gNC, va_Nw (.castable q.1 q.2) U) ∧ (∀ q ∈ gAO, va_AO q U) ∧
  (∀ q ∈ gST, va_Z q.1 q.2.1 q.2.2.1 (.ref (E.2.2.2.1 q.2.2.2)) (gA E) U U.heap) ∧
  va_T (.object "java/lang/Object") (E.2.2.2.1 0) 0 (fun _ => .null) (gA E) U U.heap ∧ va_Mi "[Ljava/lang/Object;" (E.2.2.2.1 1) U ∧ va_Dc U ∧ (va_X (E.2.2.2.1 2) E.2.2.2.2.1 E.2.2.2.2.2 U U.heap ∧ E.2.2.2.1 2 < E.2.2.1)
theorem gK.warm {E : gD} {s U : State} {locs : List Loc} (h : gK E s) (hW : s.WarmedH U.vm) (hS : va_S (gA E) s.heap U.heap locs) : gK E U := by
  obtain ⟨h1, h2, h3, h4, h5, h6, h7, h8, h9, h10, h11, h12⟩ := h
  have hlt : E.2.2.2.1 2 < s.heap.size := (Array.getElem?_eq_some_iff.mp h11.choose_spec.1).1
  exact ⟨va_K.moved hW.alike h1, h2, fun q hq => va_Nw.warmF hW (h3 q hq), fun q hq => va_Nw.warmM hW (h4 q hq), fun q hq => va_Nw.warmC hW (h5 q hq), fun q hq => va_AO.moved hW.alike (h6 q hq), fun q hq => ((h7 q hq).moved hW.alike).kept hS.2.1, (h8.moved hW.alike).kept hS.2.1, h9.moved hW.alike, h10.moved hW.alike, (h11.moved hW.alike).kept (hS.2.1 _ hlt (Nat.not_le.mpr h12)), h12⟩
theorem gK.calling {E : gD} {U : State} {g : JFrame} {mk : MethodId} {a : Array Value} (h : gK E U) : gK E (U.calling g mk a) := by
  obtain ⟨h1, h2, h3, h4, h5, h6, h7, h8, h9, h10, h11, h12⟩ := h
  have hv : U.vm.Alike (U.calling g mk a).vm := Vm.Alike.refl U.vm
  exact ⟨va_K.moved hv h1, h2, fun q hq => va_Nw.same rfl rfl (h3 q hq), fun q hq => va_Nw.same rfl rfl (h4 q hq), fun q hq => va_Nw.same rfl rfl (h5 q hq), fun q hq => va_AO.moved hv (h6 q hq), fun q hq => (h7 q hq).moved hv, h8.moved hv, h9.moved hv, h10.moved hv, h11.moved hv, h12⟩
def gQ (E : gD) (rv : Option Value) (res : gM) : Array Value → State → Outcome → State → Prop := fun _ st o t => o = .returned rv ∧ gH E res t.heap ∧ va_F (gA E) st t
abbrev gR (Y : gY) (n0 s0 : Nat) (res : gM) : Room := { frames := yF Y, cells := res.2.1 - n0, slots := res.2.2.1 - s0, locals := yW Y }
def xC (Y : gY) (E : gD) (p : Program) (s : State) (m : MethodId) (args : Array Value) (meth : Method) (c : Code) : Prop :=
  p.tables.exec = Jvm.exec ∧ c.code = yB Y ∧ meth.sig.returnType = yR Y ∧ c.maxLocals = yL Y ∧ s.vm.findClass (yO Y) = some m.cls ∧ (∀ w ∈ yC Y :: gT, w.before args s = true) ∧ meth.locks = false ∧ (yN Y = "<init>" → meth.name = "<init>") ∧ gK E s
def xX (l : Launch) (E : gD) (Y : gY) (n0 s0 : Nat) (rv : Option Value) (res : gM) (pc : Nat) (lv : List (Nat × gV)) (st : List gV) (mm : gM) : Prop :=
  gLe mm res ∧ ∀ (p : Program) (e : Env) (s : State) (m : MethodId) (args : Array Value) (below : List Frame) (meth : Method) (c : Code), xC Y E p s m args meth c → s.heap.size = n0 → n0 ≤ mm.2.1 → s0 ≤ mm.2.2.1 →
    ∀ (H : Heap) (locs : List Loc) (ls : Array Slot), gH E mm H → va_S (gA E) s.heap H locs → lv_has ls (yL Y) (lv.map gl) →
      W p l e (gR Y n0 s0 res) s m args below meth c H locs (mm.2.1 - n0) (mm.2.2.1 - s0) (MQ below (gQ E rv res) args s (res.2.1 - n0) (res.2.2.1 - s0) (gA E)) (F0 m pc ls (st.map gv))
def gMet (l : Launch) (E : gD) (Y : gY) (y : MethodName) (as : List gV) (rv : Option Value) (mm res : gM) : Prop :=
  Met l y (yC Y :: gT) (gR Y mm.2.1 mm.2.2.1 res) (va_Pc (as.map gv) (fun U => gH E mm U.heap ∧ gK E U)) (gQ E rv res) (res.2.1 - mm.2.1) (res.2.2.1 - mm.2.2.1) (gA E)
def gla : Nat → List gV → List (Nat × gV)
  | _, [] => []
  | i, v :: vs => (i, v) :: gla (i + gc v) vs
theorem gla_eq (vs : List gV) : ∀ i, lv_args i (vs.map gv) = (gla i vs).map gl := by
  induction vs with
  | nil => intro i; rfl
  | cons v vs ih =>
    intro i
    have hc : (if (gv v).category = 2 then i + 2 else i + 1) = i + gc v := by
      rw [gv_cat]
      rcases v with x | x | r <;> rfl
    show (i, gv v) :: lv_args (if (gv v).category = 2 then i + 2 else i + 1) (vs.map gv) = gl (i, v) :: (gla (i + gc v) vs).map gl
    rw [hc, ih]
    rfl
theorem gsl_len (vs : List gV) : (lg_sl (vs.map gv)).length = (vs.map gc).sum := by
  induction vs with
  | nil => rfl
  | cons v vs ih =>
    have e : lg_sl ((v :: vs).map gv) = (if (gv v).category = 2 then [Slot.val (gv v), .second] else [.val (gv v)]) ++ lg_sl (vs.map gv) := rfl
    rw [e, List.length_append, ih, List.map_cons, List.sum_cons, gv_cat]
    rcases v with x | x | r <;> rfl
/-- a method's contract out of the walk of its body -/
theorem x_met {Y : gY} {y : MethodName} {as : List gV} {rv : Option Value} {mm res : gM} (hy : plainName y.cls = true) (hc : yC Y = Cond.code y (yB Y) (yL Y) (yR Y)) (ho : y.cls = yO Y) (hnm : y.name = yN Y) (hn : (as.map gc).sum ≤ yL Y)
    {l : Launch} {E : gD} (h : xX l E Y mm.2.1 mm.2.2.1 rv res 0 (gla 0 as) [] mm) : gMet l E Y y as rv mm res := by
  refine Met.ofW (cc := yB Y) (maxL := yL Y) (ret := yR Y) hy (by rw [hc]) ?_
  intro p e s m args below meth c s₁ B hml hv
  obtain ⟨rfl, hH, hK⟩ := hv
  have hts := atoms_spec (ws := yC Y :: gT) B.pre
  have hown : s.vm.findClass y.cls = some m.cls := findClass_of_methodNamed B.named
  have hw := h.2 p e s m _ below meth c ⟨B.exec, B.bytes, B.returns, hml, by rw [← ho]; exact hown, hts, B.notSynchronized, fun hi => (((name_of_methodNamed B.named B.method).1).trans hnm).trans hi, hK⟩ hH.1.1 (Nat.le_refl _) (Nat.le_refl _) s.heap [] _ hH va_S.rf (by
    have hl := lv_entry (as.map gv) (n := yL Y) (by rw [gsl_len]; exact hn)
    rw [gla_eq] at hl
    exact hl)
  rw [Nat.sub_self, Nat.sub_self] at hw
  rw [lg_entry_eq]
  exact hw
theorem g_mem {L : List Cond} {w : Cond} (i : Nat) (h : L[i]? = some w) : w ∈ L := List.mem_of_getElem? h
section GX
variable {l : Launch} {E : gD} {Y : gY} {n0 s0 : Nat} {rv : Option Value} {res mm mm1 : gM} {lv lv' : List (Nat × gV)} {st st' : List gV}
theorem x_same {pc pc' : Nat} (h : ∀ {p : Program} {e : Env} {s : State} {m : MethodId} {args : Array Value} {below : List Frame} {meth : Method} {c : Code} {H : Heap} {locs : List Loc} {ls : Array Slot} {cells slots : Nat} {Q : State → Prop}, xC Y E p s m args meth c → gH E mm H → va_S (gA E) s.heap H locs → lv_has ls (yL Y) (lv.map gl) → cells ≤ res.2.1 - n0 → slots ≤ res.2.2.1 - s0 →
      (∀ ls' : Array Slot, lv_has ls' (yL Y) (lv'.map gl) → W p l e (gR Y n0 s0 res) s m args below meth c H locs cells slots Q (F0 m pc' ls' (st'.map gv))) → W p l e (gR Y n0 s0 res) s m args below meth c H locs cells slots Q (F0 m pc ls (st.map gv)))
    (k : xX l E Y n0 s0 rv res pc' lv' st' mm) : xX l E Y n0 s0 rv res pc lv st mm := by
  refine ⟨k.1, ?_⟩
  intro p e s m args below meth c C hz h1 h2 H locs ls hH hS hl
  obtain ⟨k1, k2⟩ := k
  exact h C hH hS hl (Nat.sub_le_sub_right k1.1 _) (Nat.sub_le_sub_right k1.2 _) (fun ls' hl' => k2 p e s m args below meth c C hz h1 h2 H locs ls' hH hS hl')
/-- a row that writes one cell, or none: the sizes stay -/
theorem x_write {pc pc' : Nat} (hz : mm1.2 = mm.2) (h : ∀ {p : Program} {e : Env} {s : State} {m : MethodId} {args : Array Value} {below : List Frame} {meth : Method} {c : Code} {H : Heap} {locs : List Loc} {ls : Array Slot} {cells slots : Nat} {Q : State → Prop}, xC Y E p s m args meth c → gH E mm H → va_S (gA E) s.heap H locs → lv_has ls (yL Y) (lv.map gl) → cells ≤ res.2.1 - n0 → slots ≤ res.2.2.1 - s0 →
      (∀ (H1 : Heap) (locs1 : List Loc), gH E mm1 H1 → va_S (gA E) s.heap H1 locs1 → W p l e (gR Y n0 s0 res) s m args below meth c H1 locs1 cells slots Q (F0 m pc' ls (st'.map gv))) → W p l e (gR Y n0 s0 res) s m args below meth c H locs cells slots Q (F0 m pc ls (st.map gv)))
    (k : xX l E Y n0 s0 rv res pc' lv st' mm1) : xX l E Y n0 s0 rv res pc lv st mm := by
  obtain ⟨k1, k2⟩ := k
  obtain ⟨f, n, z⟩ := mm
  obtain ⟨f1, n1, z1⟩ := mm1
  obtain ⟨rfl, rfl⟩ : n1 = n ∧ z1 = z := by simpa using hz
  refine ⟨k1, ?_⟩
  intro p e s m args below meth c C hz h1 h2 H locs ls hH hS hl
  exact h C hH hS hl (Nat.sub_le_sub_right k1.1 _) (Nat.sub_le_sub_right k1.2 _) (fun H1 locs1 hH1 hS1 => k2 p e s m args below meth c C hz h1 h2 H1 locs1 ls hH1 hS1 hl)
/-- a row that makes a cell of n slots -/
theorem x_make {pc pc' n : Nat} (hz : mm1.2 = (mm.2.1 + 1, mm.2.2.1 + n, mm.2.2.2)) (h : ∀ {p : Program} {e : Env} {s : State} {m : MethodId} {args : Array Value} {below : List Frame} {meth : Method} {c : Code} {H : Heap} {locs : List Loc} {ls : Array Slot} {cells slots : Nat} {Q : State → Prop}, xC Y E p s m args meth c → gH E mm H → va_S (gA E) s.heap H locs → lv_has ls (yL Y) (lv.map gl) → cells + 1 ≤ res.2.1 - n0 → slots + n ≤ res.2.2.1 - s0 →
      (∀ (H1 : Heap) (locs1 : List Loc), gH E mm1 H1 → va_S (gA E) s.heap H1 locs1 → W p l e (gR Y n0 s0 res) s m args below meth c H1 locs1 (cells + 1) (slots + n) Q (F0 m pc' ls (st'.map gv))) → W p l e (gR Y n0 s0 res) s m args below meth c H locs cells slots Q (F0 m pc ls (st.map gv)))
    (k : xX l E Y n0 s0 rv res pc' lv st' mm1) : xX l E Y n0 s0 rv res pc lv st mm := by
  obtain ⟨k1, k2⟩ := k
  obtain ⟨f, a, z, w⟩ := mm
  obtain ⟨f1, a1, z1, w1⟩ := mm1
  obtain ⟨rfl, rfl, rfl⟩ : a1 = a + 1 ∧ z1 = z + n ∧ w1 = w := by simpa using hz
  obtain ⟨g1, g2⟩ := k1
  dsimp only at g1 g2
  refine ⟨⟨?_, ?_⟩, ?_⟩
  · dsimp only; omega
  · dsimp only; omega
  intro p e s m args below meth c C hz h1 h2 H locs ls hH hS hl
  dsimp only at h1 h2
  have e1 : a - n0 + 1 = a + 1 - n0 := by omega
  have e2 : z - s0 + n = z + n - s0 := by omega
  refine h C hH hS hl (by dsimp only; omega) (by dsimp only; omega) (fun H1 locs1 hH1 hS1 => ?_)
  dsimp only
  rw [e1, e2]
  exact k2 p e s m args below meth c C hz (by dsimp only; omega) (by dsimp only; omega) H1 locs1 ls hH1 hS1 hl
theorem x_sub (ks : List Nat) (hs : ks.filterMap (fun k => lv[k]?) = lv') {pc : Nat} (k : xX l E Y n0 s0 rv res pc lv' st mm) : xX l E Y n0 s0 rv res pc lv st mm := by
  refine x_same (fun C hH hS hl _ _ kk => kk _ (lv_sub hl ks ?_)) k
  subst hs
  show List.filterMap (fun k => (lv.map gl)[k]?) ks = List.map gl (List.filterMap (fun k => lv[k]?) ks)
  rw [List.map_filterMap]
  apply congrArg (fun f => List.filterMap f ks)
  funext k
  rw [List.getElem?_map]
theorem x_topi {x y : Int32} {pc : Nat} (e : y = x) (k : xX l E Y n0 s0 rv res pc lv (.inl y :: st) mm) : xX l E Y n0 s0 rv res pc lv (.inl x :: st) mm := e ▸ k
theorem x_topl {x y : Int64} {pc : Nat} (e : y = x) (k : xX l E Y n0 s0 rv res pc lv (.inr (.inl y) :: st) mm) : xX l E Y n0 s0 rv res pc lv (.inr (.inl x) :: st) mm := e ▸ k
theorem x_topr {x y : Option Nat} {pc : Nat} (e : y = x) (k : xX l E Y n0 s0 rv res pc lv (.inr (.inr y) :: st) mm) : xX l E Y n0 s0 rv res pc lv (.inr (.inr x) :: st) mm := e ▸ k
theorem gl_at {ls : Array Slot} {nL : Nat} (hl : lv_has ls nL (lv.map gl)) (j : Nat) {i : Nat} {v : gV} (hk : lv[j]? = some (i, v)) : ls[i]? = some (.val (gv v)) := lv_at hl j (by rw [List.getElem?_map, hk]; rfl)
/-! constants -/
theorem x_iconst (pc : Nat) {n : Int} {v : Int32} (hdg : decode (yB Y) pc = .ok (.iconst n, 1)) (hv : Int32.ofInt n = v) (k : xX l E Y n0 s0 rv res (pc + 1) lv (.inl v :: st) mm) : xX l E Y n0 s0 rv res pc lv st mm :=
  x_same (fun C hH hS hl _ _ kk => lv_iconst C.1 C.2.1 hdg hv (kk _ hl)) k
theorem x_bipush (pc : Nat) {n : Int} {v : Int32} (hdg : decode (yB Y) pc = .ok (.bipush n, 2)) (hv : (Int8.ofInt n).toInt32 = v) (k : xX l E Y n0 s0 rv res (pc + 2) lv (.inl v :: st) mm) : xX l E Y n0 s0 rv res pc lv st mm :=
  x_same (fun C hH hS hl _ _ kk => lv_bipush C.1 C.2.1 hdg hv (kk _ hl)) k
theorem x_sipush (pc : Nat) {n : Int} {v : Int32} (hdg : decode (yB Y) pc = .ok (.sipush n, 3)) (hv : (Int16.ofInt n).toInt32 = v) (k : xX l E Y n0 s0 rv res (pc + 3) lv (.inl v :: st) mm) : xX l E Y n0 s0 rv res pc lv st mm :=
  x_same (fun C hH hS hl _ _ kk => lv_sipush C.1 C.2.1 hdg hv (kk _ hl)) k
theorem x_lconst (pc : Nat) {n : Fin 2} {v : Int64} (hdg : decode (yB Y) pc = .ok (.lconst n, 1)) (hv : Int64.ofNat (n : Nat) = v) (k : xX l E Y n0 s0 rv res (pc + 1) lv (.inr (.inl v) :: st) mm) : xX l E Y n0 s0 rv res pc lv st mm :=
  x_same (fun C hH hS hl _ _ kk => lv_lconst C.1 C.2.1 hdg hv (kk _ hl)) k
theorem x_ldc (pc : Nat) {index : Nat} {v : Int32} (hdg : decode (yB Y) pc = .ok (.ldc index, 2)) (hw : Cond.constant (yO Y) index v ∈ gT) (k : xX l E Y n0 s0 rv res (pc + 2) lv (.inl v :: st) mm) : xX l E Y n0 s0 rv res pc lv st mm :=
  x_same (fun C hH hS hl _ _ kk => W.ldc C.1 C.2.1 C.2.2.2.2.1 (C.2.2.2.2.2.1 _ (List.mem_cons_of_mem _ hw)) rfl hdg (kk _ hl)) k
theorem x_ldc2 (pc : Nat) {index : Nat} {v : Int64} (hdg : decode (yB Y) pc = .ok (.ldc2_w index, 3)) (hw : Cond.constantLong (yO Y) index v ∈ gT) (k : xX l E Y n0 s0 rv res (pc + 3) lv (.inr (.inl v) :: st) mm) : xX l E Y n0 s0 rv res pc lv st mm :=
  x_same (fun C hH hS hl _ _ kk => W.ldc2 C.1 C.2.1 C.2.2.2.2.1 (C.2.2.2.2.2.1 _ (List.mem_cons_of_mem _ hw)) rfl hdg (kk _ hl)) k
theorem x_null (pc : Nat) (hdg : decode (yB Y) pc = .ok (.aconst_null, 1)) (k : xX l E Y n0 s0 rv res (pc + 1) lv (.inr (.inr none) :: st) mm) : xX l E Y n0 s0 rv res pc lv st mm :=
  x_same (fun C hH hS hl _ _ kk => lv_null C.1 C.2.1 hdg (kk _ hl)) k
/-! locals -/
theorem x_iloadn (pc j : Nat) {f : Fin 4} {i : Nat} {x : Int32} (hdg : decode (yB Y) pc = .ok (.iload_n f, 1)) (hi : (f : Nat) = i) (hk : lv[j]? = some (i, .inl x)) (k : xX l E Y n0 s0 rv res (pc + 1) lv (.inl x :: st) mm) : xX l E Y n0 s0 rv res pc lv st mm :=
  x_same (fun C hH hS hl _ _ kk => lv_iload_n C.1 C.2.1 hdg hi (gl_at hl j hk) (kk _ hl)) k
theorem x_iload (pc j : Nat) {i : Nat} {x : Int32} (hdg : decode (yB Y) pc = .ok (.iload i, 2)) (hk : lv[j]? = some (i, .inl x)) (k : xX l E Y n0 s0 rv res (pc + 2) lv (.inl x :: st) mm) : xX l E Y n0 s0 rv res pc lv st mm :=
  x_same (fun C hH hS hl _ _ kk => lv_iload C.1 C.2.1 hdg (gl_at hl j hk) (kk _ hl)) k
theorem x_lloadn (pc j : Nat) {f : Fin 4} {i : Nat} {x : Int64} (hdg : decode (yB Y) pc = .ok (.lload_n f, 1)) (hi : (f : Nat) = i) (hk : lv[j]? = some (i, .inr (.inl x))) (k : xX l E Y n0 s0 rv res (pc + 1) lv (.inr (.inl x) :: st) mm) : xX l E Y n0 s0 rv res pc lv st mm :=
  x_same (fun C hH hS hl _ _ kk => lv_lload_n C.1 C.2.1 hdg hi (gl_at hl j hk) (kk _ hl)) k
theorem x_lload (pc j : Nat) {i : Nat} {x : Int64} (hdg : decode (yB Y) pc = .ok (.lload i, 2)) (hk : lv[j]? = some (i, .inr (.inl x))) (k : xX l E Y n0 s0 rv res (pc + 2) lv (.inr (.inl x) :: st) mm) : xX l E Y n0 s0 rv res pc lv st mm :=
  x_same (fun C hH hS hl _ _ kk => lv_lload C.1 C.2.1 hdg (gl_at hl j hk) (kk _ hl)) k
theorem x_aloadn (pc j : Nat) {f : Fin 4} {i : Nat} {r : Option Nat} (hdg : decode (yB Y) pc = .ok (.aload_n f, 1)) (hi : (f : Nat) = i) (hk : lv[j]? = some (i, .inr (.inr r))) (k : xX l E Y n0 s0 rv res (pc + 1) lv (.inr (.inr r) :: st) mm) : xX l E Y n0 s0 rv res pc lv st mm := by
  cases r with
  | none => exact x_same (fun C hH hS hl _ _ kk => lv_aload_nN C.1 C.2.1 hdg hi (gl_at hl j hk) (kk _ hl)) k
  | some a => exact x_same (fun C hH hS hl _ _ kk => lv_aload_n C.1 C.2.1 hdg hi (gl_at hl j hk) (kk _ hl)) k
theorem x_aload (pc j : Nat) {i : Nat} {r : Option Nat} (hdg : decode (yB Y) pc = .ok (.aload i, 2)) (hk : lv[j]? = some (i, .inr (.inr r))) (k : xX l E Y n0 s0 rv res (pc + 2) lv (.inr (.inr r) :: st) mm) : xX l E Y n0 s0 rv res pc lv st mm := by
  cases r with
  | none => exact x_same (fun C hH hS hl _ _ kk => lv_aloadN C.1 C.2.1 hdg (gl_at hl j hk) (kk _ hl)) k
  | some a => exact x_same (fun C hH hS hl _ _ kk => lv_aload C.1 C.2.1 hdg (gl_at hl j hk) (kk _ hl)) k
def gk1 (i : Nat) (q : Nat × gV) : Bool := !(q.1 == i) && !(q.1 + 1 == i && gc q.2 == 2)
def gk2 (i : Nat) (q : Nat × gV) : Bool := !(q.1 == i) && (!(q.1 == i + 1) && !(q.1 + 1 == i && gc q.2 == 2))
theorem g_st1 {i : Nat} {v : gV} (h : (i, v) :: lv.filter (gk1 i) = lv') : (i, gv v) :: (lv.map gl).filter (fun q => !(q.1 == i) && !(q.1 + 1 == i && q.2.category == 2)) = lv'.map gl := by
  subst h
  rw [List.filter_map]
  show _ = gl (i, v) :: _
  congr 2
  apply congrArg (fun f => List.filter f lv)
  funext q
  simp [gk1, gl, gv_cat]
theorem g_st2 {i : Nat} {v : gV} (h : (i, v) :: lv.filter (gk2 i) = lv') : (i, gv v) :: (lv.map gl).filter (fun q => !(q.1 == i) && (!(q.1 == i + 1) && !(q.1 + 1 == i && q.2.category == 2))) = lv'.map gl := by
  subst h
  rw [List.filter_map]
  show _ = gl (i, v) :: _
  congr 2
  apply congrArg (fun f => List.filter f lv)
  funext q
  simp [gk2, gl, gv_cat]
theorem x_istoren (pc : Nat) {f : Fin 4} {i : Nat} {x : Int32} (hdg : decode (yB Y) pc = .ok (.istore_n f, 1)) (hi : (f : Nat) = i) (hn : i < yL Y) (hl' : (i, .inl x) :: lv.filter (gk1 i) = lv') (k : xX l E Y n0 s0 rv res (pc + 1) lv' st mm) : xX l E Y n0 s0 rv res pc lv (.inl x :: st) mm :=
  x_same (fun C hH hS hl _ _ kk => lv_istore_n C.1 C.2.1 hdg hi hl hn (g_st1 hl') kk) k
theorem x_istore (pc : Nat) {i : Nat} {x : Int32} (hdg : decode (yB Y) pc = .ok (.istore i, 2)) (hn : i < yL Y) (hl' : (i, .inl x) :: lv.filter (gk1 i) = lv') (k : xX l E Y n0 s0 rv res (pc + 2) lv' st mm) : xX l E Y n0 s0 rv res pc lv (.inl x :: st) mm :=
  x_same (fun C hH hS hl _ _ kk => lv_istore C.1 C.2.1 hdg hl hn (g_st1 hl') kk) k
theorem x_lstoren (pc : Nat) {f : Fin 4} {i : Nat} {x : Int64} (hdg : decode (yB Y) pc = .ok (.lstore_n f, 1)) (hi : (f : Nat) = i) (hn : i + 1 < yL Y) (hl' : (i, .inr (.inl x)) :: lv.filter (gk2 i) = lv') (k : xX l E Y n0 s0 rv res (pc + 1) lv' st mm) : xX l E Y n0 s0 rv res pc lv (.inr (.inl x) :: st) mm :=
  x_same (fun C hH hS hl _ _ kk => lv_lstore_n C.1 C.2.1 hdg hi hl hn (g_st2 hl') kk) k
theorem x_lstore (pc : Nat) {i : Nat} {x : Int64} (hdg : decode (yB Y) pc = .ok (.lstore i, 2)) (hn : i + 1 < yL Y) (hl' : (i, .inr (.inl x)) :: lv.filter (gk2 i) = lv') (k : xX l E Y n0 s0 rv res (pc + 2) lv' st mm) : xX l E Y n0 s0 rv res pc lv (.inr (.inl x) :: st) mm :=
  x_same (fun C hH hS hl _ _ kk => lv_lstore C.1 C.2.1 hdg hl hn (g_st2 hl') kk) k
theorem x_astoren (pc : Nat) {f : Fin 4} {i : Nat} {r : Option Nat} (hdg : decode (yB Y) pc = .ok (.astore_n f, 1)) (hi : (f : Nat) = i) (hn : i < yL Y) (hl' : (i, .inr (.inr r)) :: lv.filter (gk1 i) = lv') (k : xX l E Y n0 s0 rv res (pc + 1) lv' st mm) : xX l E Y n0 s0 rv res pc lv (.inr (.inr r) :: st) mm := by
  cases r with
  | none => exact x_same (fun C hH hS hl _ _ kk => lv_astore_nN C.1 C.2.1 hdg hi hl hn (g_st1 hl') kk) k
  | some a => exact x_same (fun C hH hS hl _ _ kk => lv_astore_n C.1 C.2.1 hdg hi hl hn (g_st1 hl') kk) k
theorem x_astore (pc : Nat) {i : Nat} {r : Option Nat} (hdg : decode (yB Y) pc = .ok (.astore i, 2)) (hn : i < yL Y) (hl' : (i, .inr (.inr r)) :: lv.filter (gk1 i) = lv') (k : xX l E Y n0 s0 rv res (pc + 2) lv' st mm) : xX l E Y n0 s0 rv res pc lv (.inr (.inr r) :: st) mm := by
  cases r with
  | none => exact x_same (fun C hH hS hl _ _ kk => lv_astoreN C.1 C.2.1 hdg hl hn (g_st1 hl') kk) k
  | some a => exact x_same (fun C hH hS hl _ _ kk => lv_astore C.1 C.2.1 hdg hl hn (g_st1 hl') kk) k
theorem x_iinc (pc j : Nat) {i : Nat} {n : Int} {x v : Int32} (hdg : decode (yB Y) pc = .ok (.iinc i n, 3)) (hk : lv[j]? = some (i, .inl x)) (hv : x + Int32.ofInt n = v) (hn : i < yL Y) (hl' : (i, .inl v) :: lv.filter (gk1 i) = lv') (k : xX l E Y n0 s0 rv res (pc + 3) lv' st mm) : xX l E Y n0 s0 rv res pc lv st mm :=
  x_same (fun C hH hS hl _ _ kk => lv_iinc (k := j) C.1 C.2.1 hdg hl (by rw [List.getElem?_map, hk]; rfl) hv hn (g_st1 hl') kk) k
/-! arithmetic -/
theorem x_iadd (pc : Nat) {x y : Int32} (hdg : decode (yB Y) pc = .ok (.iadd, 1)) (k : xX l E Y n0 s0 rv res (pc + 1) lv (.inl (x + y) :: st) mm) : xX l E Y n0 s0 rv res pc lv (.inl y :: .inl x :: st) mm :=
  x_same (fun C hH hS hl _ _ kk => lv_iadd C.1 C.2.1 hdg (kk _ hl)) k
theorem x_isub (pc : Nat) {x y : Int32} (hdg : decode (yB Y) pc = .ok (.isub, 1)) (k : xX l E Y n0 s0 rv res (pc + 1) lv (.inl (x - y) :: st) mm) : xX l E Y n0 s0 rv res pc lv (.inl y :: .inl x :: st) mm :=
  x_same (fun C hH hS hl _ _ kk => lv_isub C.1 C.2.1 hdg (kk _ hl)) k
theorem x_imul (pc : Nat) {x y : Int32} (hdg : decode (yB Y) pc = .ok (.imul, 1)) (k : xX l E Y n0 s0 rv res (pc + 1) lv (.inl (x * y) :: st) mm) : xX l E Y n0 s0 rv res pc lv (.inl y :: .inl x :: st) mm :=
  x_same (fun C hH hS hl _ _ kk => lv_imul C.1 C.2.1 hdg (kk _ hl)) k
theorem x_iand (pc : Nat) {x y : Int32} (hdg : decode (yB Y) pc = .ok (.iand, 1)) (k : xX l E Y n0 s0 rv res (pc + 1) lv (.inl (x &&& y) :: st) mm) : xX l E Y n0 s0 rv res pc lv (.inl y :: .inl x :: st) mm :=
  x_same (fun C hH hS hl _ _ kk => lv_iand C.1 C.2.1 hdg (kk _ hl)) k
theorem x_ior (pc : Nat) {x y : Int32} (hdg : decode (yB Y) pc = .ok (.ior, 1)) (k : xX l E Y n0 s0 rv res (pc + 1) lv (.inl (x ||| y) :: st) mm) : xX l E Y n0 s0 rv res pc lv (.inl y :: .inl x :: st) mm :=
  x_same (fun C hH hS hl _ _ kk => lv_ior C.1 C.2.1 hdg (kk _ hl)) k
theorem x_ixor (pc : Nat) {x y : Int32} (hdg : decode (yB Y) pc = .ok (.ixor, 1)) (k : xX l E Y n0 s0 rv res (pc + 1) lv (.inl (x ^^^ y) :: st) mm) : xX l E Y n0 s0 rv res pc lv (.inl y :: .inl x :: st) mm :=
  x_same (fun C hH hS hl _ _ kk => lv_ixor C.1 C.2.1 hdg (kk _ hl)) k
theorem x_ishl (pc : Nat) {x y : Int32} (hdg : decode (yB Y) pc = .ok (.ishl, 1)) (k : xX l E Y n0 s0 rv res (pc + 1) lv (.inl (x <<< (y &&& 31)) :: st) mm) : xX l E Y n0 s0 rv res pc lv (.inl y :: .inl x :: st) mm :=
  x_same (fun C hH hS hl _ _ kk => lv_ishl C.1 C.2.1 hdg (kk _ hl)) k
theorem x_ishr (pc : Nat) {x y : Int32} (hdg : decode (yB Y) pc = .ok (.ishr, 1)) (k : xX l E Y n0 s0 rv res (pc + 1) lv (.inl (x >>> (y &&& 31)) :: st) mm) : xX l E Y n0 s0 rv res pc lv (.inl y :: .inl x :: st) mm :=
  x_same (fun C hH hS hl _ _ kk => lv_ishr C.1 C.2.1 hdg (kk _ hl)) k
theorem x_iushr (pc : Nat) {x y : Int32} (hdg : decode (yB Y) pc = .ok (.iushr, 1)) (k : xX l E Y n0 s0 rv res (pc + 1) lv (.inl ((x.toUInt32 >>> (y.toUInt32 &&& Int32.toUInt32 31)).toInt32) :: st) mm) : xX l E Y n0 s0 rv res pc lv (.inl y :: .inl x :: st) mm :=
  x_same (fun C hH hS hl _ _ kk => lv_iushr C.1 C.2.1 hdg rfl (kk _ hl)) k
theorem x_idiv (pc : Nat) {x y : Int32} (hne : ¬ y = 0) (hdg : decode (yB Y) pc = .ok (.idiv, 1)) (k : xX l E Y n0 s0 rv res (pc + 1) lv (.inl (x / y) :: st) mm) : xX l E Y n0 s0 rv res pc lv (.inl y :: .inl x :: st) mm :=
  x_same (fun C hH hS hl _ _ kk => lv_idiv C.1 C.2.1 hdg hne (kk _ hl)) k
theorem x_irem (pc : Nat) {x y : Int32} (hne : ¬ y = 0) (hdg : decode (yB Y) pc = .ok (.irem, 1)) (k : xX l E Y n0 s0 rv res (pc + 1) lv (.inl (x - x / y * y) :: st) mm) : xX l E Y n0 s0 rv res pc lv (.inl y :: .inl x :: st) mm :=
  x_same (fun C hH hS hl _ _ kk => lv_irem C.1 C.2.1 hdg hne (kk _ hl)) k
theorem x_ineg (pc : Nat) {x : Int32} (hdg : decode (yB Y) pc = .ok (.ineg, 1)) (k : xX l E Y n0 s0 rv res (pc + 1) lv (.inl (-x) :: st) mm) : xX l E Y n0 s0 rv res pc lv (.inl x :: st) mm :=
  x_same (fun C hH hS hl _ _ kk => lv_ineg C.1 C.2.1 hdg (kk _ hl)) k
theorem x_i2l (pc : Nat) {x : Int32} (hdg : decode (yB Y) pc = .ok (.i2l, 1)) (k : xX l E Y n0 s0 rv res (pc + 1) lv (.inr (.inl x.toInt64) :: st) mm) : xX l E Y n0 s0 rv res pc lv (.inl x :: st) mm :=
  x_same (fun C hH hS hl _ _ kk => lv_i2l C.1 C.2.1 hdg rfl (kk _ hl)) k
theorem x_l2i (pc : Nat) {x : Int64} (hdg : decode (yB Y) pc = .ok (.l2i, 1)) (k : xX l E Y n0 s0 rv res (pc + 1) lv (.inl x.toInt32 :: st) mm) : xX l E Y n0 s0 rv res pc lv (.inr (.inl x) :: st) mm :=
  x_same (fun C hH hS hl _ _ kk => lv_l2i C.1 C.2.1 hdg rfl (kk _ hl)) k
theorem x_ladd (pc : Nat) {x y : Int64} (hdg : decode (yB Y) pc = .ok (.ladd, 1)) (k : xX l E Y n0 s0 rv res (pc + 1) lv (.inr (.inl (x + y)) :: st) mm) : xX l E Y n0 s0 rv res pc lv (.inr (.inl y) :: .inr (.inl x) :: st) mm :=
  x_same (fun C hH hS hl _ _ kk => lv_ladd C.1 C.2.1 hdg (kk _ hl)) k
theorem x_lsub (pc : Nat) {x y : Int64} (hdg : decode (yB Y) pc = .ok (.lsub, 1)) (k : xX l E Y n0 s0 rv res (pc + 1) lv (.inr (.inl (x - y)) :: st) mm) : xX l E Y n0 s0 rv res pc lv (.inr (.inl y) :: .inr (.inl x) :: st) mm :=
  x_same (fun C hH hS hl _ _ kk => lv_lsub C.1 C.2.1 hdg (kk _ hl)) k
theorem x_lmul (pc : Nat) {x y : Int64} (hdg : decode (yB Y) pc = .ok (.lmul, 1)) (k : xX l E Y n0 s0 rv res (pc + 1) lv (.inr (.inl (x * y)) :: st) mm) : xX l E Y n0 s0 rv res pc lv (.inr (.inl y) :: .inr (.inl x) :: st) mm :=
  x_same (fun C hH hS hl _ _ kk => lv_lmul C.1 C.2.1 hdg (kk _ hl)) k
theorem x_land (pc : Nat) {x y : Int64} (hdg : decode (yB Y) pc = .ok (.land, 1)) (k : xX l E Y n0 s0 rv res (pc + 1) lv (.inr (.inl (x &&& y)) :: st) mm) : xX l E Y n0 s0 rv res pc lv (.inr (.inl y) :: .inr (.inl x) :: st) mm :=
  x_same (fun C hH hS hl _ _ kk => lv_land C.1 C.2.1 hdg (kk _ hl)) k
theorem x_lor (pc : Nat) {x y : Int64} (hdg : decode (yB Y) pc = .ok (.lor, 1)) (k : xX l E Y n0 s0 rv res (pc + 1) lv (.inr (.inl (x ||| y)) :: st) mm) : xX l E Y n0 s0 rv res pc lv (.inr (.inl y) :: .inr (.inl x) :: st) mm :=
  x_same (fun C hH hS hl _ _ kk => lv_lor C.1 C.2.1 hdg (kk _ hl)) k
theorem x_lxor (pc : Nat) {x y : Int64} (hdg : decode (yB Y) pc = .ok (.lxor, 1)) (k : xX l E Y n0 s0 rv res (pc + 1) lv (.inr (.inl (x ^^^ y)) :: st) mm) : xX l E Y n0 s0 rv res pc lv (.inr (.inl y) :: .inr (.inl x) :: st) mm :=
  x_same (fun C hH hS hl _ _ kk => lv_lxor C.1 C.2.1 hdg (kk _ hl)) k
theorem x_lneg (pc : Nat) {x : Int64} (hdg : decode (yB Y) pc = .ok (.lneg, 1)) (k : xX l E Y n0 s0 rv res (pc + 1) lv (.inr (.inl (-x)) :: st) mm) : xX l E Y n0 s0 rv res pc lv (.inr (.inl x) :: st) mm :=
  x_same (fun C hH hS hl _ _ kk => lv_lneg C.1 C.2.1 hdg (kk _ hl)) k
theorem x_ldiv (pc : Nat) {x y : Int64} (hne : ¬ y = 0) (hdg : decode (yB Y) pc = .ok (.ldiv, 1)) (k : xX l E Y n0 s0 rv res (pc + 1) lv (.inr (.inl (x / y)) :: st) mm) : xX l E Y n0 s0 rv res pc lv (.inr (.inl y) :: .inr (.inl x) :: st) mm :=
  x_same (fun C hH hS hl _ _ kk => lv_ldiv C.1 C.2.1 hdg hne (kk _ hl)) k
theorem x_lrem (pc : Nat) {x y : Int64} (hne : ¬ y = 0) (hdg : decode (yB Y) pc = .ok (.lrem, 1)) (k : xX l E Y n0 s0 rv res (pc + 1) lv (.inr (.inl (x - x / y * y)) :: st) mm) : xX l E Y n0 s0 rv res pc lv (.inr (.inl y) :: .inr (.inl x) :: st) mm :=
  x_same (fun C hH hS hl _ _ kk => lv_lrem C.1 C.2.1 hdg hne (kk _ hl)) k
theorem x_lshl (pc : Nat) {x : Int64} {y : Int32} (hdg : decode (yB Y) pc = .ok (.lshl, 1)) (k : xX l E Y n0 s0 rv res (pc + 1) lv (.inr (.inl (x <<< (y.toInt64 &&& 63))) :: st) mm) : xX l E Y n0 s0 rv res pc lv (.inl y :: .inr (.inl x) :: st) mm :=
  x_same (fun C hH hS hl _ _ kk => lv_lshl C.1 C.2.1 hdg rfl (kk _ hl)) k
theorem x_lushr (pc : Nat) {x : Int64} {y : Int32} (hdg : decode (yB Y) pc = .ok (.lushr, 1)) (k : xX l E Y n0 s0 rv res (pc + 1) lv (.inr (.inl ((x.toUInt64 >>> (y.toInt64.toUInt64 &&& Int64.toUInt64 63)).toInt64)) :: st) mm) : xX l E Y n0 s0 rv res pc lv (.inl y :: .inr (.inl x) :: st) mm :=
  x_same (fun C hH hS hl _ _ kk => lv_lushr C.1 C.2.1 hdg rfl (kk _ hl)) k
theorem x_lshr (pc : Nat) {x : Int64} {y : Int32} (hdg : decode (yB Y) pc = .ok (.lshr, 1)) (k : xX l E Y n0 s0 rv res (pc + 1) lv (.inr (.inl (x >>> (y.toInt64 &&& 63))) :: st) mm) : xX l E Y n0 s0 rv res pc lv (.inl y :: .inr (.inl x) :: st) mm :=
  x_same (fun C hH hS hl _ _ kk => lv_lshr C.1 C.2.1 hdg rfl (kk _ hl)) k
/-! the stack -/
theorem x_dup (pc : Nat) {v : gV} (hdg : decode (yB Y) pc = .ok (.dup, 1)) (hc : gc v = 1) (k : xX l E Y n0 s0 rv res (pc + 1) lv (v :: v :: st) mm) : xX l E Y n0 s0 rv res pc lv (v :: st) mm :=
  x_same (fun C hH hS hl _ _ kk => lv_dup C.1 C.2.1 hdg ((gv_cat v).trans hc) (kk _ hl)) k
theorem x_pop (pc : Nat) {v : gV} (hdg : decode (yB Y) pc = .ok (.pop, 1)) (hc : gc v = 1) (k : xX l E Y n0 s0 rv res (pc + 1) lv st mm) : xX l E Y n0 s0 rv res pc lv (v :: st) mm :=
  x_same (fun C hH hS hl _ _ kk => lv_pop C.1 C.2.1 hdg ((gv_cat v).trans hc) (kk _ hl)) k
theorem x_dup_x1 (pc : Nat) {v w : gV} (hdg : decode (yB Y) pc = .ok (.dup_x1, 1)) (hc : gc v = 1) (hd : gc w = 1) (k : xX l E Y n0 s0 rv res (pc + 1) lv (v :: w :: v :: st) mm) : xX l E Y n0 s0 rv res pc lv (v :: w :: st) mm :=
  x_same (fun C hH hS hl _ _ kk => lv_dup_x1 C.1 C.2.1 hdg ((gv_cat v).trans hc) ((gv_cat w).trans hd) (kk _ hl)) k
theorem x_dup2 (pc : Nat) {v w : gV} (hdg : decode (yB Y) pc = .ok (.dup2, 1)) (hc : gc v = 1) (hd : gc w = 1) (k : xX l E Y n0 s0 rv res (pc + 1) lv (v :: w :: v :: w :: st) mm) : xX l E Y n0 s0 rv res pc lv (v :: w :: st) mm :=
  x_same (fun C hH hS hl _ _ kk => lv_dup2_11 C.1 C.2.1 hdg ((gv_cat v).trans hc) ((gv_cat w).trans hd) (kk _ hl)) k
theorem x_goto (pc tgt : Nat) {off : Int} (hdg : decode (yB Y) pc = .ok (.goto off, 3)) (ht : (pc : Int) + off = (tgt : Int)) (k : xX l E Y n0 s0 rv res tgt lv st mm) : xX l E Y n0 s0 rv res pc lv st mm :=
  x_same (fun C hH hS hl _ _ kk => lv_goto C.1 C.2.1 hdg ht (kk _ hl)) k
theorem x_two {c : Prop} {pc pt pf : Nat} (h : ∀ {p : Program} {e : Env} {s : State} {m : MethodId} {args : Array Value} {below : List Frame} {meth : Method} {c0 : Code} {H : Heap} {locs : List Loc} {ls : Array Slot} {cells slots : Nat} {Q : State → Prop}, xC Y E p s m args meth c0 →
      (c → W p l e (gR Y n0 s0 res) s m args below meth c0 H locs cells slots Q (F0 m pt ls (st'.map gv))) → (¬ c → W p l e (gR Y n0 s0 res) s m args below meth c0 H locs cells slots Q (F0 m pf ls (st'.map gv))) → W p l e (gR Y n0 s0 res) s m args below meth c0 H locs cells slots Q (F0 m pc ls (st.map gv)))
    (kt : c → xX l E Y n0 s0 rv res pt lv st' mm) (kf : ¬ c → xX l E Y n0 s0 rv res pf lv st' mm) : xX l E Y n0 s0 rv res pc lv st mm := by
  have h0 : gLe mm res := by
    by_cases hc : c
    · exact (kt hc).1
    · exact (kf hc).1
  refine ⟨h0, ?_⟩
  intro p e s m args below meth c C hz h1 h2 H locs ls hH hS hl
  exact h C (fun hc => (kt hc).2 p e s m args below meth c C hz h1 h2 H locs ls hH hS hl) (fun hc => (kf hc).2 p e s m args below meth c C hz h1 h2 H locs ls hH hS hl)
theorem x_if_eq (pc tgt : Nat) {x : Int32} {off : Int} (hdg : decode (yB Y) pc = .ok (.ifCond .eq off, 3)) (ht : (pc : Int) + off = (tgt : Int)) (kt : x = 0 → xX l E Y n0 s0 rv res tgt lv st mm) (kf : ¬ x = 0 → xX l E Y n0 s0 rv res (pc + 3) lv st mm) : xX l E Y n0 s0 rv res pc lv (.inl x :: st) mm :=
  x_two (fun C k1 k2 => lv_if_eq C.1 C.2.1 hdg ht k1 k2) kt kf
theorem x_icmp_eq (pc tgt : Nat) {x y : Int32} {off : Int} (hdg : decode (yB Y) pc = .ok (.if_icmp .eq off, 3)) (ht : (pc : Int) + off = (tgt : Int)) (kt : x = y → xX l E Y n0 s0 rv res tgt lv st mm) (kf : ¬ x = y → xX l E Y n0 s0 rv res (pc + 3) lv st mm) : xX l E Y n0 s0 rv res pc lv (.inl y :: .inl x :: st) mm :=
  x_two (fun C k1 k2 => lv_icmp_eq C.1 C.2.1 hdg ht k1 k2) kt kf
theorem x_if_lt (pc tgt : Nat) {x : Int32} {off : Int} (hdg : decode (yB Y) pc = .ok (.ifCond .lt off, 3)) (ht : (pc : Int) + off = (tgt : Int)) (kt : x < 0 → xX l E Y n0 s0 rv res tgt lv st mm) (kf : ¬ x < 0 → xX l E Y n0 s0 rv res (pc + 3) lv st mm) : xX l E Y n0 s0 rv res pc lv (.inl x :: st) mm :=
  x_two (fun C k1 k2 => lv_if_lt C.1 C.2.1 hdg ht k1 k2) kt kf
theorem x_icmp_lt (pc tgt : Nat) {x y : Int32} {off : Int} (hdg : decode (yB Y) pc = .ok (.if_icmp .lt off, 3)) (ht : (pc : Int) + off = (tgt : Int)) (kt : x < y → xX l E Y n0 s0 rv res tgt lv st mm) (kf : ¬ x < y → xX l E Y n0 s0 rv res (pc + 3) lv st mm) : xX l E Y n0 s0 rv res pc lv (.inl y :: .inl x :: st) mm :=
  x_two (fun C k1 k2 => lv_icmp_lt C.1 C.2.1 hdg ht k1 k2) kt kf
theorem x_if_ge (pc tgt : Nat) {x : Int32} {off : Int} (hdg : decode (yB Y) pc = .ok (.ifCond .ge off, 3)) (ht : (pc : Int) + off = (tgt : Int)) (kt : 0 ≤ x → xX l E Y n0 s0 rv res tgt lv st mm) (kf : ¬ 0 ≤ x → xX l E Y n0 s0 rv res (pc + 3) lv st mm) : xX l E Y n0 s0 rv res pc lv (.inl x :: st) mm :=
  x_two (fun C k1 k2 => lv_if_ge C.1 C.2.1 hdg ht k1 k2) kt kf
theorem x_icmp_ge (pc tgt : Nat) {x y : Int32} {off : Int} (hdg : decode (yB Y) pc = .ok (.if_icmp .ge off, 3)) (ht : (pc : Int) + off = (tgt : Int)) (kt : y ≤ x → xX l E Y n0 s0 rv res tgt lv st mm) (kf : ¬ y ≤ x → xX l E Y n0 s0 rv res (pc + 3) lv st mm) : xX l E Y n0 s0 rv res pc lv (.inl y :: .inl x :: st) mm :=
  x_two (fun C k1 k2 => lv_icmp_ge C.1 C.2.1 hdg ht k1 k2) kt kf
theorem x_if_gt (pc tgt : Nat) {x : Int32} {off : Int} (hdg : decode (yB Y) pc = .ok (.ifCond .gt off, 3)) (ht : (pc : Int) + off = (tgt : Int)) (kt : 0 < x → xX l E Y n0 s0 rv res tgt lv st mm) (kf : ¬ 0 < x → xX l E Y n0 s0 rv res (pc + 3) lv st mm) : xX l E Y n0 s0 rv res pc lv (.inl x :: st) mm :=
  x_two (fun C k1 k2 => lv_if_gt C.1 C.2.1 hdg ht k1 k2) kt kf
theorem x_icmp_gt (pc tgt : Nat) {x y : Int32} {off : Int} (hdg : decode (yB Y) pc = .ok (.if_icmp .gt off, 3)) (ht : (pc : Int) + off = (tgt : Int)) (kt : y < x → xX l E Y n0 s0 rv res tgt lv st mm) (kf : ¬ y < x → xX l E Y n0 s0 rv res (pc + 3) lv st mm) : xX l E Y n0 s0 rv res pc lv (.inl y :: .inl x :: st) mm :=
  x_two (fun C k1 k2 => lv_icmp_gt C.1 C.2.1 hdg ht k1 k2) kt kf
theorem x_if_le (pc tgt : Nat) {x : Int32} {off : Int} (hdg : decode (yB Y) pc = .ok (.ifCond .le off, 3)) (ht : (pc : Int) + off = (tgt : Int)) (kt : x ≤ 0 → xX l E Y n0 s0 rv res tgt lv st mm) (kf : ¬ x ≤ 0 → xX l E Y n0 s0 rv res (pc + 3) lv st mm) : xX l E Y n0 s0 rv res pc lv (.inl x :: st) mm :=
  x_two (fun C k1 k2 => lv_if_le C.1 C.2.1 hdg ht k1 k2) kt kf
theorem x_icmp_le (pc tgt : Nat) {x y : Int32} {off : Int} (hdg : decode (yB Y) pc = .ok (.if_icmp .le off, 3)) (ht : (pc : Int) + off = (tgt : Int)) (kt : x ≤ y → xX l E Y n0 s0 rv res tgt lv st mm) (kf : ¬ x ≤ y → xX l E Y n0 s0 rv res (pc + 3) lv st mm) : xX l E Y n0 s0 rv res pc lv (.inl y :: .inl x :: st) mm :=
  x_two (fun C k1 k2 => lv_icmp_le C.1 C.2.1 hdg ht k1 k2) kt kf
theorem x_if_ne (pc tgt : Nat) {x : Int32} {off : Int} (hdg : decode (yB Y) pc = .ok (.ifCond .ne off, 3)) (ht : (pc : Int) + off = (tgt : Int)) (kf : x = 0 → xX l E Y n0 s0 rv res (pc + 3) lv st mm) (kt : ¬ x = 0 → xX l E Y n0 s0 rv res tgt lv st mm) : xX l E Y n0 s0 rv res pc lv (.inl x :: st) mm :=
  x_two (fun C k1 k2 => lv_if_ne C.1 C.2.1 hdg ht k2 k1) kf kt
theorem x_icmp_ne (pc tgt : Nat) {x y : Int32} {off : Int} (hdg : decode (yB Y) pc = .ok (.if_icmp .ne off, 3)) (ht : (pc : Int) + off = (tgt : Int)) (kf : x = y → xX l E Y n0 s0 rv res (pc + 3) lv st mm) (kt : ¬ x = y → xX l E Y n0 s0 rv res tgt lv st mm) : xX l E Y n0 s0 rv res pc lv (.inl y :: .inl x :: st) mm :=
  x_two (fun C k1 k2 => lv_icmp_ne C.1 C.2.1 hdg ht k2 k1) kf kt
theorem x_ifnull (pc tgt : Nat) {r : Option Nat} {off : Int} (hdg : decode (yB Y) pc = .ok (.ifnull off, 3)) (ht : (pc : Int) + off = (tgt : Int)) (kt : r = none → xX l E Y n0 s0 rv res tgt lv st mm) (kf : ¬ r = none → xX l E Y n0 s0 rv res (pc + 3) lv st mm) : xX l E Y n0 s0 rv res pc lv (.inr (.inr r) :: st) mm := by
  refine x_two (c := r = none) (fun C k1 k2 => ?_) kt kf
  cases r with
  | none => exact lv_ifnullN C.1 C.2.1 hdg ht (k1 rfl)
  | some a => exact lv_ifnull C.1 C.2.1 hdg (k2 (fun h => by cases h))
theorem x_ifnonnull (pc tgt : Nat) {r : Option Nat} {off : Int} (hdg : decode (yB Y) pc = .ok (.ifnonnull off, 3)) (ht : (pc : Int) + off = (tgt : Int)) (kf : r = none → xX l E Y n0 s0 rv res (pc + 3) lv st mm) (kt : ¬ r = none → xX l E Y n0 s0 rv res tgt lv st mm) : xX l E Y n0 s0 rv res pc lv (.inr (.inr r) :: st) mm := by
  refine x_two (c := r = none) (fun C k1 k2 => ?_) kf kt
  cases r with
  | none => exact lv_ifnonnullN C.1 C.2.1 hdg (k1 rfl)
  | some a => exact lv_ifnonnull C.1 C.2.1 hdg ht (k2 (fun h => by cases h))
theorem x_acmp_eq (pc tgt : Nat) {r q : Option Nat} {off : Int} (hdg : decode (yB Y) pc = .ok (.if_acmp .eq off, 3)) (ht : (pc : Int) + off = (tgt : Int)) (kt : r = q → xX l E Y n0 s0 rv res tgt lv st mm) (kf : ¬ r = q → xX l E Y n0 s0 rv res (pc + 3) lv st mm) : xX l E Y n0 s0 rv res pc lv (.inr (.inr q) :: .inr (.inr r) :: st) mm :=
  x_two (fun C k1 k2 => lv_acmp_eq C.1 C.2.1 hdg ht k1 k2) kt kf
theorem x_acmp_ne (pc tgt : Nat) {r q : Option Nat} {off : Int} (hdg : decode (yB Y) pc = .ok (.if_acmp .ne off, 3)) (ht : (pc : Int) + off = (tgt : Int)) (kf : r = q → xX l E Y n0 s0 rv res (pc + 3) lv st mm) (kt : ¬ r = q → xX l E Y n0 s0 rv res tgt lv st mm) : xX l E Y n0 s0 rv res pc lv (.inr (.inr q) :: .inr (.inr r) :: st) mm :=
  x_two (fun C k1 k2 => lv_acmp_ne C.1 C.2.1 hdg ht k2 k1) kf kt
theorem g_cmp_eq (x y : Int64) : (lg_cmp x y = 0) ↔ x = y := by
  unfold lg_cmp
  by_cases h1 : x > y
  · rw [if_pos h1]
    constructor
    · intro h; exact absurd h (by decide)
    · intro h; subst h; exact absurd h1 (by simp)
  · rw [if_neg h1]
    by_cases h2 : x = y
    · rw [if_pos h2]; exact ⟨fun _ => h2, fun _ => rfl⟩
    · rw [if_neg h2]
      constructor
      · intro h; exact absurd h (by decide)
      · intro h; exact absurd h h2
theorem g_cmp_lt (x y : Int64) : (lg_cmp x y < 0) ↔ x < y := by
  have h := lg_cmp_ge x y
  rw [← Int32.not_le, ← Int64.not_le, h]
theorem g_cmp_gt (x y : Int64) : (0 < lg_cmp x y) ↔ y < x := by
  have h := lg_cmp_le x y
  rw [← Int32.not_le, ← Int64.not_le, h]
theorem x_lcmp (pc : Nat) {x y : Int64} (hdg : decode (yB Y) pc = .ok (.lcmp, 1)) (k : xX l E Y n0 s0 rv res (pc + 1) lv (.inl (lg_cmp x y) :: st) mm) : xX l E Y n0 s0 rv res pc lv (.inr (.inl y) :: .inr (.inl x) :: st) mm :=
  x_same (fun C hH hS hl _ _ kk => W.lcmp C.1 C.2.1 hdg (kk _ hl)) k
theorem x_lc_eq (pc tgt : Nat) {x y : Int64} {off : Int} (hdg : decode (yB Y) pc = .ok (.lcmp, 1)) (hdg2 : decode (yB Y) (pc + 1) = .ok (.ifCond .eq off, 3)) (ht : ((pc + 1 : Nat) : Int) + off = (tgt : Int)) (kt : x = y → xX l E Y n0 s0 rv res tgt lv st mm) (kf : ¬ x = y → xX l E Y n0 s0 rv res (pc + 4) lv st mm) : xX l E Y n0 s0 rv res pc lv (.inr (.inl y) :: .inr (.inl x) :: st) mm :=
  x_lcmp pc hdg (x_if_eq (pc + 1) tgt hdg2 ht (fun h => kt ((g_cmp_eq x y).mp h)) (fun h => kf (fun z => h ((g_cmp_eq x y).mpr z))))
theorem x_lc_lt (pc tgt : Nat) {x y : Int64} {off : Int} (hdg : decode (yB Y) pc = .ok (.lcmp, 1)) (hdg2 : decode (yB Y) (pc + 1) = .ok (.ifCond .lt off, 3)) (ht : ((pc + 1 : Nat) : Int) + off = (tgt : Int)) (kt : x < y → xX l E Y n0 s0 rv res tgt lv st mm) (kf : ¬ x < y → xX l E Y n0 s0 rv res (pc + 4) lv st mm) : xX l E Y n0 s0 rv res pc lv (.inr (.inl y) :: .inr (.inl x) :: st) mm :=
  x_lcmp pc hdg (x_if_lt (pc + 1) tgt hdg2 ht (fun h => kt ((g_cmp_lt x y).mp h)) (fun h => kf (fun z => h ((g_cmp_lt x y).mpr z))))
theorem x_lc_ge (pc tgt : Nat) {x y : Int64} {off : Int} (hdg : decode (yB Y) pc = .ok (.lcmp, 1)) (hdg2 : decode (yB Y) (pc + 1) = .ok (.ifCond .ge off, 3)) (ht : ((pc + 1 : Nat) : Int) + off = (tgt : Int)) (kt : y ≤ x → xX l E Y n0 s0 rv res tgt lv st mm) (kf : ¬ y ≤ x → xX l E Y n0 s0 rv res (pc + 4) lv st mm) : xX l E Y n0 s0 rv res pc lv (.inr (.inl y) :: .inr (.inl x) :: st) mm :=
  x_lcmp pc hdg (x_if_ge (pc + 1) tgt hdg2 ht (fun h => kt ((lg_cmp_ge x y).mp h)) (fun h => kf (fun z => h ((lg_cmp_ge x y).mpr z))))
theorem x_lc_gt (pc tgt : Nat) {x y : Int64} {off : Int} (hdg : decode (yB Y) pc = .ok (.lcmp, 1)) (hdg2 : decode (yB Y) (pc + 1) = .ok (.ifCond .gt off, 3)) (ht : ((pc + 1 : Nat) : Int) + off = (tgt : Int)) (kt : y < x → xX l E Y n0 s0 rv res tgt lv st mm) (kf : ¬ y < x → xX l E Y n0 s0 rv res (pc + 4) lv st mm) : xX l E Y n0 s0 rv res pc lv (.inr (.inl y) :: .inr (.inl x) :: st) mm :=
  x_lcmp pc hdg (x_if_gt (pc + 1) tgt hdg2 ht (fun h => kt ((g_cmp_gt x y).mp h)) (fun h => kf (fun z => h ((g_cmp_gt x y).mpr z))))
theorem x_lc_le (pc tgt : Nat) {x y : Int64} {off : Int} (hdg : decode (yB Y) pc = .ok (.lcmp, 1)) (hdg2 : decode (yB Y) (pc + 1) = .ok (.ifCond .le off, 3)) (ht : ((pc + 1 : Nat) : Int) + off = (tgt : Int)) (kt : x ≤ y → xX l E Y n0 s0 rv res tgt lv st mm) (kf : ¬ x ≤ y → xX l E Y n0 s0 rv res (pc + 4) lv st mm) : xX l E Y n0 s0 rv res pc lv (.inr (.inl y) :: .inr (.inl x) :: st) mm :=
  x_lcmp pc hdg (x_if_le (pc + 1) tgt hdg2 ht (fun h => kt ((lg_cmp_le x y).mp h)) (fun h => kf (fun z => h ((lg_cmp_le x y).mpr z))))
theorem x_lc_ne (pc tgt : Nat) {x y : Int64} {off : Int} (hdg : decode (yB Y) pc = .ok (.lcmp, 1)) (hdg2 : decode (yB Y) (pc + 1) = .ok (.ifCond .ne off, 3)) (ht : ((pc + 1 : Nat) : Int) + off = (tgt : Int)) (kf : x = y → xX l E Y n0 s0 rv res (pc + 4) lv st mm) (kt : ¬ x = y → xX l E Y n0 s0 rv res tgt lv st mm) : xX l E Y n0 s0 rv res pc lv (.inr (.inl y) :: .inr (.inl x) :: st) mm :=
  x_lcmp pc hdg (x_if_ne (pc + 1) tgt hdg2 ht (fun h => kf ((g_cmp_eq x y).mp h)) (fun h => kt (fun z => h ((g_cmp_eq x y).mpr z))))
/-! answers -/
theorem x_end {pc : Nat} (h : ∀ {p : Program} {e : Env} {s : State} {m : MethodId} {args : Array Value} {below : List Frame} {meth : Method} {c : Code} {H : Heap} {locs : List Loc} {ls : Array Slot} {cells slots : Nat}, xC Y E p s m args meth c → (∀ t : State, t.heap = H → s.WarmedH t.vm → gQ E rv mm args s (.returned rv) t) → (∀ q ∈ locs, gA E q.base) →
      W p l e (gR Y n0 s0 mm) s m args below meth c H locs cells slots (MQ below (gQ E rv mm) args s cells slots (gA E)) (F0 m pc ls (st.map gv))) : xX l E Y n0 s0 rv mm pc lv st mm := by
  refine ⟨⟨Nat.le_refl _, Nat.le_refl _⟩, ?_⟩
  intro p e s m args below meth c C hz h1 h2 H locs ls hH hS hl
  exact h C (fun t ht _ => ⟨rfl, by rw [ht]; exact hH, hS.F ht⟩) hS.2.2
theorem x_ireturn (pc : Nat) {v : Int32} (hr : yR Y = some .int) (hdg : decode (yB Y) pc = .ok (.ireturn, 1)) : xX l E Y n0 s0 (some (.int v)) mm pc lv [.inl v] mm :=
  x_end (fun C hq hf => W.iret C.1 C.2.1 (C.2.2.1.trans hr) hq hf hdg (hlocks := C.2.2.2.2.2.2.1))
theorem g_z {v : Int32} (h : v = 0 ∨ v = 1) : narrow .boolean (.int v) = .int v := by
  rcases h with rfl | rfl <;> decide +kernel
theorem x_zreturn (pc : Nat) {v : Int32} (hv : v = 0 ∨ v = 1) (hr : yR Y = some .boolean) (hdg : decode (yB Y) pc = .ok (.ireturn, 1)) : xX l E Y n0 s0 (some (.int v)) mm pc lv [.inl v] mm :=
  x_end (fun C hq hf => W.zret C.1 C.2.1 (C.2.2.1.trans hr) (g_z hv) hq hf hdg (hlocks := C.2.2.2.2.2.2.1))
theorem x_lreturn (pc : Nat) {v : Int64} (hr : yR Y = some .long) (hdg : decode (yB Y) pc = .ok (.lreturn, 1)) : xX l E Y n0 s0 (some (.long v)) mm pc lv [.inr (.inl v)] mm :=
  x_end (fun C hq hf => W.lret C.1 C.2.1 (C.2.2.1.trans hr) hq hf hdg (hlocks := C.2.2.2.2.2.2.1))
theorem x_areturn (pc : Nat) {r : Option Nat} {rt : FieldType} (hr : yR Y = some rt) (hrt : (∃ n, rt = .object n) ∨ ∃ t, rt = .array t) (hdg : decode (yB Y) pc = .ok (.areturn, 1)) : xX l E Y n0 s0 (some (va_rf r)) mm pc lv [.inr (.inr r)] mm :=
  x_end (fun C hq hf => W.aret C.1 C.2.1 (C.2.2.1.trans hr) hrt (va_rf_or r) hq hf hdg (hlocks := C.2.2.2.2.2.2.1))
theorem x_return (pc : Nat) (hr : yR Y = none) (hdg : decode (yB Y) pc = .ok (.return_, 1)) : xX l E Y n0 s0 none mm pc lv [] mm :=
  x_end (fun C hq hf => W.vret C.1 C.2.1 (C.2.2.1.trans hr) hq hf hdg (hlocks := C.2.2.2.2.2.2.1))
end GX
