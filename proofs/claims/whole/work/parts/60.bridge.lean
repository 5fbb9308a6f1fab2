/-! from a pure statement about the law's function to the walk of the law's body -/
theorem g_room {s : State} {pl : Platform} {R R' : Room} (h : s.hasRoom pl R = true) (h1 : R'.frames = R.frames) (h2 : R'.locals = R.locals) (h3 : R'.cells ≤ R.cells) (h4 : R'.slots ≤ R.slots) : s.hasRoom pl R' = true := by
  simp only [State.hasRoom, Bool.and_eq_true, decide_eq_true_eq] at h ⊢
  obtain ⟨⟨⟨⟨a1, a2⟩, a3⟩, a4⟩, a5⟩ := h
  rw [h1, h2]
  exact ⟨⟨⟨⟨a1, a2⟩, by omega⟩, by omega⟩, a5⟩
def gPure : Prop := ∀ (n0 : Nat) (st : Nat → Nat) (L : Nat) (xs : Nat → Int32), L ≤ 4096 → st 0 < n0 → st 2 < n0 → ∃ res : gM, F_Law_law (some (st 2)) (fun _ => none, n0, 0, st, L, xs) = some (1, res) ∧ res.2.1 ≤ n0 + 600000 ∧ res.2.2.1 ≤ 7302250
theorem g_arrP {s : State} {args : Array Value} {ty : FieldType} (h : (Cond.arrayClass ty).before args s = true) : ∃ cA : ClassId, ArrOfT s cA ty ∧ s.vm.findClass ("[" ++ ty.toString) = some cA := by
  obtain ⟨cA, kA, comp, f1, f2, f3⟩ := Cond.arrayClass_spec h
  exact ⟨cA, fun n z => ⟨fun k h => (by cases h), kA, f2, comp, f3⟩, f1⟩
theorem g_arrO {s : State} {args : Array Value} {C : String} (h : (Cond.arrayOver (.object C)).before args s = true) : ∃ cA : ClassId, ArrOfT s cA (.object C) ∧ va_RA s cA (.object C) := by
  obtain ⟨comp, cA, kA, f1, f2, f3, f4, f5⟩ := Cond.arrayOver_spec h
  exact ⟨cA, fun n z => ⟨fun k h => (by cases h), kA, f3, comp, f4⟩, kA, comp, f3, f4, f1, f5⟩
theorem g_cls {s : State} {args : Array Value} {ci : Nat} {C : String} {T : u_T} {N : Nat} (hts : ∀ w ∈ gT, w.before args s = true) (h : gCls ci C T N) (hi : Cond.instantiable C N ∈ gT) : ∃ (q : ClassId × (Nat → Nat)), u_Kn s C T N q.1 q.2 := by
  obtain ⟨c, i, hk⟩ := u_known (C := C) (T := T) (N := N) (n := N) hts h.2.1 (hts _ hi)
  exact ⟨(c, i), hk⟩
set_option maxHeartbeats 4000000 in
set_option maxRecDepth 100000 in
theorem whole_bridge (HP : gPure) {p : Program} {e : Env} {s : State} {m : MethodId} {below : List Frame} {meth : Method} {c : Code} (l : Launch) {b L : Nat} {xs : Nat → Int32} (hL : L ≤ 4096) (hx : p.tables.exec = Jvm.exec) (hb : c.code = code) (hr : meth.sig.returnType = ret) (hml : c.maxLocals = 4) (hown : s.vm.findClass "ShipSetsLaw" = some m.cls) (hts : ∀ w ∈ lw_tbl, w.before #[Value.ref b] s = true) (hX : va_X b L xs s s.heap) (hbl : b < s.heap.size) (hlocks : meth.locks = false) (hgv : (Jvm.Cond.and given_1 narrow_1).before #[Value.ref b] s = true)
    {T : State} (hT : T.heap = s.heap) (X : Stand p l e room_1 s m #[Value.ref b] below meth c T [] 0 0) :
    ∃ t, Steps p.tables e below (T.setTop (entryFrame m ([Value.ref b] : List Value).toArray 4)) t ∧ ∃ o, t.status = .running ∧ Ended t below o ∧ o = .returned (some (.int 1)) ∧ Framed s o t [] 600000 7302250 := by
  have htg : ∀ w ∈ gT, w.before #[Value.ref b] s = true := fun w h => hts w (gT_sub w h)
  have htt : ∀ w ∈ tables_1, w.before #[Value.ref b] s = true := fun w h => hts w (List.mem_append_right _ h)
  have hgs := flat_of_before _ hgv
  -- classes
  obtain ⟨q0, hq0⟩ := g_cls htg cls_S (gT_in0 21 rfl)
  obtain ⟨q1, hq1⟩ := g_cls htg cls_Teller (gT_in0 85 rfl)
  obtain ⟨q2, hq2⟩ := g_cls htg cls_Blocks (gT_in0 92 rfl)
  obtain ⟨q3, hq3⟩ := g_cls htg cls_Clock (gT_in0 105 rfl)
  obtain ⟨q4, hq4⟩ := g_cls htg cls_ShipSet (gT_in1 116 rfl)
  obtain ⟨q5, hq5⟩ := g_cls htg cls_Holding (gT_in1 121 rfl)
  obtain ⟨q6, hq6⟩ := g_cls htg cls_Settling (gT_in2 82 rfl)
  obtain ⟨q7, hq7⟩ := g_cls htg cls_Telling (gT_in1 80 rfl)
  obtain ⟨q8, hq8⟩ := g_cls htg cls_Current (gT_in0 51 rfl)
  obtain ⟨q9, hq9⟩ := g_cls htg cls_AL (gT_in0 29 rfl)
  obtain ⟨q10, hq10⟩ := g_cls htg cls_M (gT_in3 57 rfl)
  obtain ⟨dC, dI, hKc⟩ : ∃ (dC : Nat → ClassId) (dI : Nat → Nat → Nat), ∀ (k : Nat) (q : vw_C), gCl[k]? = some q → u_Kn s q.1 q.2.1 q.2.2 (dC k) (dI k) := by
    refine ⟨fun k => (([q0, q1, q2, q3, q4, q5, q6, q7, q8, q9, q10] : List (ClassId × (Nat → Nat))).getD k q0).1, fun k => (([q0, q1, q2, q3, q4, q5, q6, q7, q8, q9, q10] : List (ClassId × (Nat → Nat))).getD k q0).2, ?_⟩
    intro k q hq
    match k, hq with
    | 0, hq => cases hq; exact hq0
    | 1, hq => cases hq; exact hq1
    | 2, hq => cases hq; exact hq2
    | 3, hq => cases hq; exact hq3
    | 4, hq => cases hq; exact hq4
    | 5, hq => cases hq; exact hq5
    | 6, hq => cases hq; exact hq6
    | 7, hq => cases hq; exact hq7
    | 8, hq => cases hq; exact hq8
    | 9, hq => cases hq; exact hq9
    | 10, hq => cases hq; exact hq10
    | k + 11, hq => simp [gCl] at hq
  -- arrays
  obtain ⟨cI, aI, rI⟩ := g_arrP (htg _ (gT_in0 60 rfl))
  obtain ⟨cJ, aJ, rJ⟩ := g_arrP (htg _ (gT_in0 61 rfl))
  obtain ⟨cZ, aZ, rZ⟩ := g_arrP (htg _ (gT_in0 59 rfl))
  obtain ⟨cT, aT, rT⟩ := g_arrO (htt _ (gAO_in "ShipSets$Telling" (by decide +kernel)))
  obtain ⟨cO, aO, rO⟩ := g_arrO (htt _ (gAO_in "java/lang/Object" (by decide +kernel)))
  -- statics
  have hAll : ∀ a : Nat, a < s.heap.size → ¬ s.heap.size ≤ a := fun a h => Nat.not_le.mpr h
  obtain ⟨z0, hz0, hT0⟩ := va_Tof (args := #[Value.ref b]) (s := s) (tm := .static "java/util/ArrayList" "DEFAULTCAPACITY_EMPTY_ELEMENTDATA" "[Ljava/lang/Object;") (ty := .object "java/lang/Object") (N := 0) (f := fun _ => .null) (A := fun q => s.heap.size ≤ q) (by decide) (hgs _ (by decide +kernel)) (va_eqt (hgs _ (by decide +kernel))) (fun j hj => absurd hj (Nat.not_lt_zero j)) hAll
  have hZ0 := va_Zref (args := #[Value.ref b]) (s := s) (A := fun q => s.heap.size ≤ q) (htt (.laysStatic "java/util/ArrayList" "DEFAULTCAPACITY_EMPTY_ELEMENTDATA" "[Ljava/lang/Object;") (by decide +kernel)) (htg _ (gT_in0 4 rfl)) hz0 hAll
  have hz0l : z0 < s.heap.size := (Array.getElem?_eq_some_iff.mp hT0.choose_spec.1).1
  obtain ⟨mi, hMi⟩ := va_Mi.of (args := #[Value.ref b]) (s := s) (C := "[Ljava/lang/Object;") (hgs _ (by decide +kernel))
  have hDc : va_Dc s := va_Dc.of (htt (.declares ⟨"java/lang/Object", "getClass", "()Ljava/lang/Class;"⟩) (by decide +kernel))
  obtain ⟨res, hF, hc1, hc2⟩ := HP s.heap.size (fun k => if k = 0 then z0 else if k = 1 then mi else b) L xs hL hz0l hbl
  have hKE : gK ((dC, dI), [(cI, .int), (cJ, .long), (cZ, .boolean), (cT, .object "ShipSets$Telling"), (cO, .object "java/lang/Object")], s.heap.size, (fun k => if k = 0 then z0 else if k = 1 then mi else b), L, xs) s := by
    refine ⟨⟨hKc, ?_⟩, rfl, fun q hq => va_Nw.of rfl (htt _ (gNF_in q hq)), fun q hq => va_Nw.of rfl (htt _ (gNM_in q hq)), fun q hq => va_Nw.of rfl (htt _ (gNC_in q hq)), fun q hq => va_AO.of (htt _ (gAO_in q hq)), ?_, hT0, hMi, hDc, hX, hbl⟩
    · intro k q hq
      match k, hq with
      | 0, hq => cases hq; exact ⟨aI, rI⟩
      | 1, hq => cases hq; exact ⟨aJ, rJ⟩
      | 2, hq => cases hq; exact ⟨aZ, rZ⟩
      | 3, hq => cases hq; exact ⟨aT, rT⟩
      | 4, hq => cases hq; exact ⟨aO, rO⟩
      | k + 5, hq => simp at hq
    · intro q hq
      rcases List.mem_singleton.mp hq with rfl
      exact hZ0
  have hw := (w_Law_law (l := l) (E := ((dC, dI), [(cI, .int), (cJ, .long), (cZ, .boolean), (cT, .object "ShipSets$Telling"), (cO, .object "java/lang/Object")], s.heap.size, (fun k => if k = 0 then z0 else if k = 1 then mi else b), L, xs)) (n0 := s.heap.size) (s0 := 0) hF).2 p e s m #[Value.ref b] below meth c
    ⟨hx, hb, hr, hml, hown, fun w hw => by
      rcases List.mem_cons.mp hw with rfl | h
      · rfl
      · exact htg w h, hlocks, fun h => absurd h (by decide), hKE⟩ rfl (Nat.le_refl _) (Nat.le_refl _) s.heap [] _ ⟨⟨rfl, Nat.le_refl _, rfl⟩, fun a e h => by cases h⟩ va_S.rf
    (lv_entry ([Value.ref b]) (n := 4) (Nat.le_of_ble_eq_true rfl))
  have e0 : s.heap.size - s.heap.size = 0 := Nat.sub_self _
  dsimp only at hw
  rw [e0] at hw
  have X' : Stand p l e (gR Y_Law_law s.heap.size 0 res) s m #[Value.ref b] below meth c T [] 0 0 := { X with room := g_room X.room rfl rfl (by show res.2.1 - s.heap.size ≤ 600000; omega) (by show res.2.2.1 - 0 ≤ 7302250; omega) }
  obtain ⟨t, h1, o, h2, h3, ⟨rfl, h5, h6⟩, LL, ⟨h7, h8, h9⟩, h10⟩ := hw T hT X'
  rw [lg_entry_eq]
  refine ⟨t, h1, _, h2, h3, rfl, h7, h8, ?_⟩
  exact State.sameButNew.mono (State.sameButNew.drop_fresh (L := []) (J := LL) h9 (fun q hq => h10 q hq)) (by omega) (by omega)
