/-! making cells, casts, calls -/
def gnO (ci : Nat) (fs : List Value) (N : Nat) (mm : gM) : Option (Option Nat × gM) := some (some mm.2.1, gN mm (.inr (ci, fs)) N)
def gnI (t : Nat) (n : Int32) (mm : gM) : Option (Option Nat × gM) := if n < 0 ∨ 100000 < n.toNatClampNeg then none else some (some mm.2.1, gN mm (.inl (t, n.toNatClampNeg, .inl (fun _ => 0))) n.toNatClampNeg)
def gnL (t : Nat) (n : Int32) (mm : gM) : Option (Option Nat × gM) := if n < 0 ∨ 100000 < n.toNatClampNeg then none else some (some mm.2.1, gN mm (.inl (t, n.toNatClampNeg, .inr (.inl (fun _ => 0)))) n.toNatClampNeg)
def gnR (t : Nat) (n : Int32) (mm : gM) : Option (Option Nat × gM) := if n < 0 ∨ 100000 < n.toNatClampNeg then none else some (some mm.2.1, gN mm (.inl (t, n.toNatClampNeg, .inr (.inr (.inr (.inr (fun _ => none)))))) n.toNatClampNeg)
theorem gnA_spec {n : Int32} {mm mm1 : gM} {e : gE} {r : Option Nat} (h : (if n < 0 ∨ 100000 < n.toNatClampNeg then none else some (some mm.2.1, gN mm e n.toNatClampNeg)) = some (r, mm1)) : ¬ n < 0 ∧ n.toNatClampNeg ≤ 100000 ∧ r = some mm.2.1 ∧ mm1 = gN mm e n.toNatClampNeg := by
  by_cases hc : n < 0 ∨ 100000 < n.toNatClampNeg
  · rw [if_pos hc] at h; cases h
  · rw [if_neg hc] at h
    cases h
    exact ⟨fun z => hc (Or.inl z), Nat.le_of_not_lt fun z => hc (Or.inr z), rfl, rfl⟩
/-- what 'new' needs of the tables -/
def gNew (own : String) (idx ci N : Nat) (fs : List Value) : Prop := ∃ (C : String) (T : u_T) (ty : Nat → FieldType), gCl[ci]? = some (C, T, N) ∧ (∀ w ∈ u_ws C T N, w ∈ gT) ∧ (∀ k, k < N → parseFieldDescriptor (T k).2.2.1 = some (ty k)) ∧ Cond.classLink own idx C ∈ gT ∧ Cond.instantiable C N ∈ gT ∧ Cond.initialized C ∈ gT ∧ (∀ j, j < N → defaultValue (ty j) = vp_V fs j)
/-- what a call needs of the tables: v: by the receiver's class; i: a constructor; s: static -/
def gCb (own : String) (idx : Nat) (y : MethodName) (Y' : gY) : Prop := yC Y' = Cond.code y (yB Y') (yL Y') (yR Y') ∧ yC Y' ∈ gT ∧ Cond.initialized y.cls ∈ gT ∧ y.cls ≠ "java/lang/invoke/MethodHandle" ∧ y.cls ≠ "java/lang/invoke/VarHandle" ∧ (Cond.methodLink own idx y ∈ gT ∨ ∃ host, (own, idx, y, host) ∈ gNM)
def gCv (own : String) (idx : Nat) (y : MethodName) (Y' : gY) (ci : Nat) : Prop := gCb own idx y Y' ∧ Cond.instanceMethod y ∈ gT ∧ Cond.selects y.cls y y ∈ gT ∧ ∃ (T : u_T) (N : Nat), gCl[ci]? = some (y.cls, T, N)
def gCi (own : String) (idx : Nat) (y : MethodName) (Y' : gY) : Prop := gCb own idx y Y' ∧ Cond.instanceMethod y ∈ gT ∧ y.name = "<init>" ∧ yR Y' = none
def gCs (own : String) (idx : Nat) (y : MethodName) (Y' : gY) : Prop := gCb own idx y Y' ∧ Cond.static y ∈ gT
def gRoom (Y Y' : gY) (y : MethodName) (as st : List gV) (n : Nat) : Prop := as.length = n ∧ (parseMethodDescriptor y.desc).map (fun d => d.parameters.length) = some n ∧ yF Y' + 1 ≤ yF Y ∧ 8 + (yL Y' + 11) + yW Y' ≤ yW Y ∧ (st.map gc).sum ≤ 8
theorem g_good {Y Y' : gY} (h : yC Y' ∈ gT) : GoodIn (yC Y :: gT) (yC Y' :: gT) := by
  intro w hw
  have hin : w ∈ gT := by
    rcases List.mem_cons.mp hw with rfl | h2
    · exact h
    · exact h2
  exact ⟨List.mem_cons_of_mem _ hin, gT_good w hin⟩
theorem g_sum (st : List gV) : ((st.map gv).map fun v => v.category).sum = (st.map gc).sum := by
  rw [List.map_map]
  apply congrArg List.sum
  apply List.map_congr_left
  intro v _
  exact gv_cat v
section GX4
variable {l : Launch} {E : gD} {Y : gY} {n0 s0 : Nat} {rv : Option Value} {res mm mm1 : gM} {lv lv' : List (Nat × gV)} {st st' : List gV}
theorem g_new {H : Heap} (hH : gH E mm H) : gA E H.size := by
  show E.2.2.1 ≤ H.size
  rw [hH.1.1]
  exact hH.1.2.1
theorem x_new (pc : Nat) {idx ci N : Nat} {fs : List Value} {r : Option Nat} (w : gNew (yO Y) idx ci N fs) (hv : gnO ci fs N mm = some (r, mm1)) (hdg : decode (yB Y) pc = .ok (.new idx, 3)) (kk : xX l E Y n0 s0 rv res (pc + 3) lv (.inr (.inr r) :: st) mm1) : xX l E Y n0 s0 rv res pc lv st mm := by
  obtain ⟨C, T, ty, hc, hin, hty, w1, w2, w3, hfs⟩ := w
  have hv' : (some mm.2.1, gN mm (.inr (ci, fs)) N) = (r, mm1) := Option.some.inj hv
  cases hv'
  refine x_make (mm1 := gN mm _ _) (n := N) rfl (fun {p e s m args below meth c H locs ls cells slots Q} Cx hH hS hl hc1 hc2 kk => ?_) kk
  obtain ⟨hx, hb, hr, hml, hown, hts0, hlocks, hname, hK⟩ := Cx
  have hts : ∀ w ∈ gT, w.before args s = true := fun w h => hts0 w (List.mem_cons_of_mem _ h)
  have hKn := hK.1.1 ci _ hc
  have hgA := g_new hH
  refine W.newcK hx hb hown (hts _ w1) (hts _ w2) (hts _ w3) rfl hdg hc1 hc2 hKn.2.1 rfl fun H1 kC hkC e1 z1 o1 => ?_
  have kk2 := kk H1 locs (hH.push ⟨hgA, _, hc, (u_born ty hts hin hKn hkC e1 hty).to hfs⟩ z1 o1) ⟨Nat.le_trans hS.1 (by omega), fun q h1 h2 => (o1 q (Nat.lt_of_lt_of_le h1 hS.1)).trans (hS.2.1 q h1 h2), hS.2.2⟩
  rw [hH.1.1]
  exact kk2
theorem x_newI (pc : Nat) {t : Nat} {n : Int32} {r : Option Nat} (h100 : t < 100) (ht : gTys[t]? = some .int) (w : Cond.arrayClass .int ∈ gT) (hv : gnI t n mm = some (r, mm1)) (hdg : decode (yB Y) pc = .ok (.newarray .int, 2)) (kk : xX l E Y n0 s0 rv res (pc + 2) lv (.inr (.inr r) :: st) mm1) : xX l E Y n0 s0 rv res pc lv (.inl n :: st) mm := by
  obtain ⟨hn, hN, rfl, rfl⟩ := gnA_spec hv
  refine x_make (mm1 := gN mm _ _) (n := n.toNatClampNeg) rfl (fun {p e s m args below meth c H locs ls cells slots Q} Cx hH hS hl hc1 hc2 kk => ?_) kk
  obtain ⟨hx, hb, hr, hml, hown, hts0, hlocks, hname, hK⟩ := Cx
  have hts : ∀ w ∈ gT, w.before args s = true := fun w h => hts0 w (List.mem_cons_of_mem _ h)
  have hgA := g_new hH
  have hlen : t < E.2.1.length := by
    have h1 : t < (E.2.1.map Prod.snd).length := by rw [hK.2.1]; exact (List.getElem?_eq_some_iff.mp ht).1
    rwa [List.length_map] at h1
  have hq : E.2.1[t]? = some E.2.1[t] := List.getElem?_eq_getElem hlen
  obtain ⟨-, -, hRA⟩ := g_ty hK hq ht
  refine va_newaK (atype := .int) hx hb (hts _ w) rfl hdg rfl hn rfl (by show n.toNatClampNeg * 4 ≤ 536870912; omega) hc1 hc2 rfl fun H1 cA e1 z1 o1 _ hNm => ?_
  have hcA : (E.2.1[t]).1 = cA := Option.some.inj ((show s.vm.findClass _ = _ from hRA).symm.trans hNm)
  have kk2 := kk H1 locs (hH.push ⟨fun _ => hgA, E.2.1[t], by rw [Nat.mod_eq_of_lt h100]; exact hq, by rw [hcA]; exact e1⟩ z1 o1) ⟨Nat.le_trans hS.1 (by omega), fun q h1 h2 => (o1 q (Nat.lt_of_lt_of_le h1 hS.1)).trans (hS.2.1 q h1 h2), hS.2.2⟩
  rw [hH.1.1]
  exact kk2
theorem x_newZ (pc : Nat) {t : Nat} {n : Int32} {r : Option Nat} (h100 : t < 100) (ht : gTys[t]? = some .boolean) (w : Cond.arrayClass .boolean ∈ gT) (hv : gnI t n mm = some (r, mm1)) (hdg : decode (yB Y) pc = .ok (.newarray .boolean, 2)) (kk : xX l E Y n0 s0 rv res (pc + 2) lv (.inr (.inr r) :: st) mm1) : xX l E Y n0 s0 rv res pc lv (.inl n :: st) mm := by
  obtain ⟨hn, hN, rfl, rfl⟩ := gnA_spec hv
  refine x_make (mm1 := gN mm _ _) (n := n.toNatClampNeg) rfl (fun {p e s m args below meth c H locs ls cells slots Q} Cx hH hS hl hc1 hc2 kk => ?_) kk
  obtain ⟨hx, hb, hr, hml, hown, hts0, hlocks, hname, hK⟩ := Cx
  have hts : ∀ w ∈ gT, w.before args s = true := fun w h => hts0 w (List.mem_cons_of_mem _ h)
  have hgA := g_new hH
  have hlen : t < E.2.1.length := by
    have h1 : t < (E.2.1.map Prod.snd).length := by rw [hK.2.1]; exact (List.getElem?_eq_some_iff.mp ht).1
    rwa [List.length_map] at h1
  have hq : E.2.1[t]? = some E.2.1[t] := List.getElem?_eq_getElem hlen
  obtain ⟨-, -, hRA⟩ := g_ty hK hq ht
  refine va_newaK (atype := .boolean) hx hb (hts _ w) rfl hdg rfl hn rfl (by show n.toNatClampNeg * 1 ≤ 536870912; omega) hc1 hc2 rfl fun H1 cA e1 z1 o1 _ hNm => ?_
  have hcA : (E.2.1[t]).1 = cA := Option.some.inj ((show s.vm.findClass _ = _ from hRA).symm.trans hNm)
  have kk2 := kk H1 locs (hH.push ⟨fun _ => hgA, E.2.1[t], by rw [Nat.mod_eq_of_lt h100]; exact hq, by rw [hcA]; exact e1⟩ z1 o1) ⟨Nat.le_trans hS.1 (by omega), fun q h1 h2 => (o1 q (Nat.lt_of_lt_of_le h1 hS.1)).trans (hS.2.1 q h1 h2), hS.2.2⟩
  rw [hH.1.1]
  exact kk2
theorem x_newL (pc : Nat) {t : Nat} {n : Int32} {r : Option Nat} (h100 : t < 100) (ht : gTys[t]? = some .long) (w : Cond.arrayClass .long ∈ gT) (hv : gnL t n mm = some (r, mm1)) (hdg : decode (yB Y) pc = .ok (.newarray .long, 2)) (kk : xX l E Y n0 s0 rv res (pc + 2) lv (.inr (.inr r) :: st) mm1) : xX l E Y n0 s0 rv res pc lv (.inl n :: st) mm := by
  obtain ⟨hn, hN, rfl, rfl⟩ := gnA_spec hv
  refine x_make (mm1 := gN mm _ _) (n := n.toNatClampNeg) rfl (fun {p e s m args below meth c H locs ls cells slots Q} Cx hH hS hl hc1 hc2 kk => ?_) kk
  obtain ⟨hx, hb, hr, hml, hown, hts0, hlocks, hname, hK⟩ := Cx
  have hts : ∀ w ∈ gT, w.before args s = true := fun w h => hts0 w (List.mem_cons_of_mem _ h)
  have hgA := g_new hH
  have hlen : t < E.2.1.length := by
    have h1 : t < (E.2.1.map Prod.snd).length := by rw [hK.2.1]; exact (List.getElem?_eq_some_iff.mp ht).1
    rwa [List.length_map] at h1
  have hq : E.2.1[t]? = some E.2.1[t] := List.getElem?_eq_getElem hlen
  obtain ⟨-, -, hRA⟩ := g_ty hK hq ht
  refine va_newaK (atype := .long) hx hb (hts _ w) rfl hdg rfl hn rfl (by show n.toNatClampNeg * 8 ≤ 536870912; omega) hc1 hc2 rfl fun H1 cA e1 z1 o1 _ hNm => ?_
  have hcA : (E.2.1[t]).1 = cA := Option.some.inj ((show s.vm.findClass _ = _ from hRA).symm.trans hNm)
  have kk2 := kk H1 locs (hH.push ⟨fun _ => hgA, E.2.1[t], by rw [Nat.mod_eq_of_lt h100]; exact hq, by rw [hcA]; exact e1⟩ z1 o1) ⟨Nat.le_trans hS.1 (by omega), fun q h1 h2 => (o1 q (Nat.lt_of_lt_of_le h1 hS.1)).trans (hS.2.1 q h1 h2), hS.2.2⟩
  rw [hH.1.1]
  exact kk2
theorem x_newR (pc : Nat) {t idx : Nat} {C : String} {n : Int32} {r : Option Nat} (h100 : t < 100) (ht : gTys[t]? = some (.object C)) (w : Cond.classLink (yO Y) idx C ∈ gT) (w2 : C ∈ gAO) (hv : gnR t n mm = some (r, mm1)) (hdg : decode (yB Y) pc = .ok (.anewarray idx, 3)) (kk : xX l E Y n0 s0 rv res (pc + 3) lv (.inr (.inr r) :: st) mm1) : xX l E Y n0 s0 rv res pc lv (.inl n :: st) mm := by
  obtain ⟨hn, hN, rfl, rfl⟩ := gnA_spec hv
  refine x_make (mm1 := gN mm _ _) (n := n.toNatClampNeg) rfl (fun {p e s m args below meth c H locs ls cells slots Q} Cx hH hS hl hc1 hc2 kk => ?_) kk
  obtain ⟨hx, hb, hr, hml, hown, hts0, hlocks, hname, hK⟩ := Cx
  have hts : ∀ w ∈ gT, w.before args s = true := fun w h => hts0 w (List.mem_cons_of_mem _ h)
  have hgA := g_new hH
  have hlen : t < E.2.1.length := by
    have h1 : t < (E.2.1.map Prod.snd).length := by rw [hK.2.1]; exact (List.getElem?_eq_some_iff.mp ht).1
    rwa [List.length_map] at h1
  have hq : E.2.1[t]? = some E.2.1[t] := List.getElem?_eq_getElem hlen
  obtain ⟨-, -, kA0, comp0, -, -, -, hRA⟩ := g_ty hK hq ht
  refine W.anew hx hb hown (hts _ w) (va_AO.use (hK.2.2.2.2.2.1 _ w2)) rfl hdg rfl hn (by omega) hc1 hc2 fun cA kA comp f1 f2 f3 f4 => ?_
  have hcA : (E.2.1[t]).1 = cA := Option.some.inj (hRA.symm.trans f1)
  generalize hH1 : H.push ({ cls := cA, slots := Array.replicate n.toNatClampNeg .null, vm := .none } : Cell) = H1
  have z1 : H1.size = H.size + 1 := by rw [← hH1, Array.size_push]
  have e1 : H1[H.size]? = some (arrV cA n.toNatClampNeg (fun _ => .null)) := by rw [← hH1, Array.getElem?_push_size, ← arrV_new]
  have o1 : ∀ q : Nat, q < H.size → H1[q]? = H[q]? := fun q hq => by rw [← hH1, Array.getElem?_push, if_neg (Nat.ne_of_lt hq)]
  have kk2 := kk H1 locs (hH.push ⟨fun _ => hgA, E.2.1[t], by rw [Nat.mod_eq_of_lt h100]; exact hq, by rw [hcA]; exact e1⟩ z1 o1) ⟨Nat.le_trans hS.1 (by omega), fun q h1 h2 => (o1 q (Nat.lt_of_lt_of_le h1 hS.1)).trans (hS.2.1 q h1 h2), hS.2.2⟩
  rw [hH.1.1]
  exact kk2
/-- a cast to a class of ours -/
def gCast (ci : Nat) (r : Option Nat) (mm : gM) : Prop := r = none ∨ ∃ (a : Nat) (fs : List Value), r = some a ∧ mm.1 a = some (.inr (ci, fs))
def gcs (ci : Nat) (r : Option Nat) (mm : gM) : Option Unit := match r with
  | none => some ()
  | some a => match mm.1 a with
    | some (.inr o) => if o.1 = ci then some () else none
    | _ => none
theorem gcs_spec {ci : Nat} {r : Option Nat} {mm : gM} {u : Unit} (h : gcs ci r mm = some u) : gCast ci r mm := by
  unfold gcs at h
  cases r with
  | none => exact Or.inl rfl
  | some a =>
    dsimp only at h
    cases hm : mm.1 a with
    | none => rw [hm] at h; cases h
    | some e =>
      rw [hm] at h
      cases e with
      | inl x => cases h
      | inr o =>
        obtain ⟨c, fs⟩ := o
        dsimp only at h
        by_cases hc : c = ci
        · subst hc; exact Or.inr ⟨a, fs, rfl, hm⟩
        · rw [if_neg hc] at h; cases h
theorem x_cast (pc : Nat) {idx ci N : Nat} {C : String} {T : u_T} {r : Option Nat} {u : Unit} (hv : gcs ci r mm = some u) (hc : gCl[ci]? = some (C, T, N)) (w : Cond.classLink (yO Y) idx C ∈ gT) (hdg : decode (yB Y) pc = .ok (.checkcast idx, 3)) (kk : xX l E Y n0 s0 rv res (pc + 3) lv (.inr (.inr r) :: st) mm) : xX l E Y n0 s0 rv res pc lv (.inr (.inr r) :: st) mm := by
  rcases gcs_spec hv with rfl | ⟨a, fs, rfl, hm⟩
  · exact x_same (fun Cx hH hS hl _ _ kk => lv_castN Cx.1 Cx.2.1 hdg (kk _ hl)) kk
  · refine x_same (fun {p e s m args below meth c H locs ls cells slots Q} Cx hH hS hl _ _ kk => ?_) kk
    obtain ⟨hx, hb, hr, hml, hown, hts, hlocks, hname, hK⟩ := Cx
    exact va_castS hx hb hown (hts _ (List.mem_cons_of_mem _ w)) (hK.1.1 ci _ hc).2 (va_recv hK.1 (g_one (hH.2 a _ hm).2) hc (q0 := 0) rfl) hdg (kk _ hl)
/-! calls -/
theorem x_after {p : Program} {e : Env} {R : Room} {s : State} {m : MethodId} {args : Array Value} {below : List Frame} {meth : Method} {c : Code} {H : Heap} {locs : List Loc} {cells slots mc ms pc : Nat} {ls : Array Slot} {st0 rest : List Value} {a : Array Value} {rv1 : Option Value} {Q : State → Prop}
    (hr : va_Run p l e R s m args below meth c H locs cells slots mc ms (F0 m pc ls st0) rest (gQ E rv1 mm1 a) (gA E)) (hS : va_S (gA E) s.heap H locs)
    (kk : ∀ (H1 : Heap) (locs1 : List Loc), gH E mm1 H1 → va_S (gA E) s.heap H1 locs1 → W p l e R s m args below meth c H1 locs1 (cells + mc) (slots + ms) Q (F0 m (pc + 3) ls (rv1.toList ++ rest))) : W p l e R s m args below meth c H locs cells slots Q (F0 m pc ls st0) := by
  intro T hT X
  obtain ⟨v, st₀, t, T', L, h0, X', hL, e1, e2, ⟨hv, hb, hz, hk⟩, st⟩ := hr T hT X
  cases hv
  rw [h0] at hz hk
  obtain ⟨t2, a1, b1⟩ := kk T'.heap (locs ++ L) (by rw [e1]; exact hb)
    ⟨Nat.le_trans hS.1 (by rw [e1]; exact hz), fun q h1 h2 => by rw [e1, hk q (Nat.lt_of_lt_of_le h1 hS.1) h2]; exact hS.2.1 q h1 h2, fun q hq => by
      rcases List.mem_append.mp hq with h | h
      · exact hS.2.2 q h
      · exact hL q h⟩ T' rfl X'
  exact ⟨t2, st t2 a1, b1⟩
theorem g_blind {as : List gV} : FrameBlind (va_Pc (as.map gv) (fun U => gH E mm U.heap ∧ gK E U)) := by
  intro a U g mk q
  obtain ⟨q0, q1, q2⟩ := q
  exact ⟨q0, q1, q2.calling⟩
theorem g_pre {s : State} {H : Heap} {locs : List Loc} {as : List gV} (hH : gH E mm H) (hS : va_S (gA E) s.heap H locs) (hK : gK E s) : ∀ U : State, U.heap = H → s.WarmedH U.vm → va_Pc (as.map gv) (fun U => gH E mm U.heap ∧ gK E U) (as.map gv).toArray U := by
  intro U hU hW
  exact ⟨rfl, by rw [hU]; exact hH, hK.warm (locs := locs) hW (by rw [hU]; exact hS)⟩
/-- the shape of a call: what the kit's run of it gives, put behind the walk -/
theorem x_call {pc : Nat} {rv1 : Option Value} {rs : List gV} (hrs : rs.map gv = rv1.toList) (hle : gLe mm mm1)
    (h : ∀ {p : Program} {e : Env} {s : State} {m : MethodId} {args : Array Value} {below : List Frame} {meth : Method} {c : Code} {H : Heap} {locs : List Loc} {ls : Array Slot} {cells slots : Nat}, xC Y E p s m args meth c → gH E mm H → va_S (gA E) s.heap H locs → lv_has ls (yL Y) (lv.map gl) → cells + (mm1.2.1 - mm.2.1) ≤ res.2.1 - n0 → slots + (mm1.2.2.1 - mm.2.2.1) ≤ res.2.2.1 - s0 →
      ∃ a : Array Value, va_Run p l e (gR Y n0 s0 res) s m args below meth c H locs cells slots (mm1.2.1 - mm.2.1) (mm1.2.2.1 - mm.2.2.1) (F0 m pc ls (st.map gv)) (st'.map gv) (gQ E rv1 mm1 a) (gA E))
    (k : xX l E Y n0 s0 rv res (pc + 3) lv (rs ++ st') mm1) : xX l E Y n0 s0 rv res pc lv st mm := by
  obtain ⟨k1, k2⟩ := k
  obtain ⟨g1, g2⟩ := k1
  obtain ⟨g3, g4⟩ := hle
  refine ⟨⟨Nat.le_trans g3 g1, Nat.le_trans g4 g2⟩, ?_⟩
  intro p e s m args below meth c C hz h1 h2 H locs ls hH hS hl
  obtain ⟨a, hr⟩ := h (below := below) (cells := mm.2.1 - n0) (slots := mm.2.2.1 - s0) (e := e) C hH hS hl (by omega) (by omega)
  refine x_after hr hS (fun H1 locs1 hH1 hS1 => ?_)
  have e1 : mm.2.1 - n0 + (mm1.2.1 - mm.2.1) = mm1.2.1 - n0 := by omega
  have e2 : mm.2.2.1 - s0 + (mm1.2.2.1 - mm.2.2.1) = mm1.2.2.1 - s0 := by omega
  rw [e1, e2, ← hrs, ← List.map_append]
  exact k2 p e s m args below meth c C hz (by omega) (by omega) H1 locs1 ls hH1 hS1 hl
theorem g_sig {y : MethodName} {n : Nat} (h : (parseMethodDescriptor y.desc).map (fun d => d.parameters.length) = some n) : ∀ sig, parseMethodDescriptor y.desc = some sig → n = sig.parameters.length := by
  intro sig hs
  rw [hs] at h
  exact (Option.some.inj h).symm
theorem x_callV (pc n : Nat) {idx ci b : Nat} {Y' : gY} {y : MethodName} {as st2 : List gV} {rv1 : Option Value} {rs : List gV} {r : Option Nat} (km : ∀ (l : Launch) (E : gD), gLe mm mm1 ∧ gMet l E Y' y (.inr (.inr (some b)) :: as) rv1 mm mm1) (hrs : rs.map gv = rv1.toList) (w : gCv (yO Y) idx y Y' ci) (hrm : gRoom Y Y' y as st' n) (hb : grc ci r mm = some b) (hst : st2 = as.reverse ++ .inr (.inr r) :: st') (hdg : decode (yB Y) pc = .ok (.invokevirtual idx, 3))
    (k : xX l E Y n0 s0 rv res (pc + 3) lv (rs ++ st') mm1) : xX l E Y n0 s0 rv res pc lv st2 mm := by
  obtain ⟨⟨hcd, wc, wn, y1, y2, wl⟩, wi, wsel, T, N, hcl⟩ := w
  obtain ⟨r1, r2, r3, r4, r5⟩ := hrm
  obtain ⟨rfl, fs, hb⟩ := grc_spec hb
  subst hst
  refine x_call hrs (km l E).1 (fun {p e s m args below meth c H locs ls cells slots} Cx hH hS hl hc1 hc2 => ⟨((.inr (.inr (some b)) :: as).map gv).toArray, ?_⟩) k
  obtain ⟨hx, hbb, hr, hml, hown, hts, hlocks, hname, hK⟩ := Cx
  have hstk : (F0 m pc ls ((as.reverse ++ .inr (.inr (some b)) :: st').map gv)).stack = (as.map gv).reverse ++ .ref b :: st'.map gv := by
    show (as.reverse ++ .inr (.inr (some b)) :: st').map gv = _
    rw [List.map_append, List.map_reverse]; rfl
  have hW : 2 * (F0 m pc ls ((as.reverse ++ .inr (.inr (some b)) :: st').map gv)).monitorRoom + ((st'.map gv).map fun v => v.category).sum ≤ 8 := lv_room (by rw [g_sum]; exact r5)
  have hrecv := va_recv hK.1 (g_one (hH.2 b _ hb).2) hcl (q0 := 0) rfl
  rcases wl with wl | ⟨host, wl⟩
  · exact va_runV (As := as.map gv) (rest := st'.map gv) (bytes := yB Y') (maxL := yL Y') (ret := yR Y') (n := n) (C := y.cls) ⟨hx, hbb, hml, hown, hts⟩ (km l E).2
      ⟨callB_of n hts (g_good wc) (by rw [hcd]) rfl rfl (hts _ (List.mem_cons_of_mem _ wn)) (hts _ (List.mem_cons_of_mem _ wl)) ⟨y1, y2, r2⟩ ⟨r3, r4⟩, hts _ (List.mem_cons_of_mem _ wi), hts _ (List.mem_cons_of_mem _ wsel)⟩
      ⟨g_blind, hrecv, g_pre hH hS hK⟩ rfl (by rw [List.length_map]; exact r1) hl.1 hstk hW hdg ⟨hc1, hc2⟩
  · exact va_runVN (As := as.map gv) (rest := st'.map gv) (bytes := yB Y') (maxL := yL Y') (ret := yR Y') (n := n) (C := y.cls) (host := host) ⟨hx, hbb, hml, hown, hts⟩ (km l E).2
      ⟨va_cnB n hts (g_good wc) (by rw [hcd]) rfl rfl (hK.2.2.2.1 _ wl) (hts _ (List.mem_cons_of_mem _ wn)) ⟨y1, y2, r2⟩ ⟨r3, r4⟩, hts _ (List.mem_cons_of_mem _ wi), hts _ (List.mem_cons_of_mem _ wsel)⟩
      ⟨g_blind, hrecv, g_pre hH hS hK⟩ rfl (by rw [List.length_map]; exact r1) hl.1 hstk hW hdg ⟨hc1, hc2⟩
theorem x_callI (pc n : Nat) {idx b : Nat} {Y' : gY} {y : MethodName} {as st2 : List gV} (km : ∀ (l : Launch) (E : gD), gLe mm mm1 ∧ gMet l E Y' y (.inr (.inr (some b)) :: as) none mm mm1) (w : gCi (yO Y) idx y Y') (hrm : gRoom Y Y' y as st' n) (hst : st2 = as.reverse ++ .inr (.inr (some b)) :: st') (hdg : decode (yB Y) pc = .ok (.invokespecial idx, 3))
    (k : xX l E Y n0 s0 rv res (pc + 3) lv st' mm1) : xX l E Y n0 s0 rv res pc lv st2 mm := by
  obtain ⟨⟨hcd, wc, wn, y1, y2, wl⟩, wi, wnm, wr⟩ := w
  obtain ⟨r1, r2, r3, r4, r5⟩ := hrm
  subst hst
  refine x_call (rs := []) (rv1 := none) rfl (km l E).1 (fun {p e s m args below meth c H locs ls cells slots} Cx hH hS hl hc1 hc2 => ⟨((.inr (.inr (some b)) :: as).map gv).toArray, ?_⟩) k
  obtain ⟨hx, hbb, hr, hml, hown, hts, hlocks, hname, hK⟩ := Cx
  have hstk : (F0 m pc ls ((as.reverse ++ .inr (.inr (some b)) :: st').map gv)).stack = (as.map gv).reverse ++ .ref b :: st'.map gv := by
    show (as.reverse ++ .inr (.inr (some b)) :: st').map gv = _
    rw [List.map_append, List.map_reverse]; rfl
  have hW : 2 * (F0 m pc ls ((as.reverse ++ .inr (.inr (some b)) :: st').map gv)).monitorRoom + ((st'.map gv).map fun v => v.category).sum ≤ 8 := lv_room (by rw [g_sum]; exact r5)
  rw [wr] at hcd
  rcases wl with wl | ⟨host, wl⟩
  · exact va_runI (As := as.map gv) (rest := st'.map gv) (bytes := yB Y') (maxL := yL Y') (n := n) ⟨hx, hbb, hml, hown, hts⟩ (km l E).2
      ⟨callB_of n hts (g_good wc) (by rw [hcd]) rfl rfl (hts _ (List.mem_cons_of_mem _ wn)) (hts _ (List.mem_cons_of_mem _ wl)) ⟨y1, y2, r2⟩ ⟨r3, r4⟩, wnm, hts _ (List.mem_cons_of_mem _ wi)⟩
      ⟨g_blind, g_pre hH hS hK⟩ rfl (by rw [List.length_map]; exact r1) hl.1 hstk hW hdg ⟨hc1, hc2⟩
  · exact va_runIN (As := as.map gv) (rest := st'.map gv) (bytes := yB Y') (maxL := yL Y') (n := n) (host := host) ⟨hx, hbb, hml, hown, hts⟩ (km l E).2
      ⟨va_cnB n hts (g_good wc) (by rw [hcd]) rfl rfl (hK.2.2.2.1 _ wl) (hts _ (List.mem_cons_of_mem _ wn)) ⟨y1, y2, r2⟩ ⟨r3, r4⟩, wnm, hts _ (List.mem_cons_of_mem _ wi)⟩
      ⟨g_blind, g_pre hH hS hK⟩ rfl (by rw [List.length_map]; exact r1) hl.1 hstk hW hdg ⟨hc1, hc2⟩
theorem x_callS (pc n : Nat) {idx : Nat} {Y' : gY} {y : MethodName} {as st2 : List gV} {rv1 : Option Value} {rs : List gV} (km : ∀ (l : Launch) (E : gD), gLe mm mm1 ∧ gMet l E Y' y as rv1 mm mm1) (hrs : rs.map gv = rv1.toList) (w : gCs (yO Y) idx y Y') (hrm : gRoom Y Y' y as st' n) (hst : st2 = as.reverse ++ st') (hdg : decode (yB Y) pc = .ok (.invokestatic idx, 3))
    (k : xX l E Y n0 s0 rv res (pc + 3) lv (rs ++ st') mm1) : xX l E Y n0 s0 rv res pc lv st2 mm := by
  obtain ⟨⟨hcd, wc, wn, y1, y2, wl⟩, wi⟩ := w
  obtain ⟨r1, r2, r3, r4, r5⟩ := hrm
  subst hst
  refine x_call hrs (km l E).1 (fun {p e s m args below meth c H locs ls cells slots} Cx hH hS hl hc1 hc2 => ⟨(as.map gv).toArray, ?_⟩) k
  obtain ⟨hx, hbb, hr, hml, hown, hts, hlocks, hname, hK⟩ := Cx
  have hstk : (F0 m pc ls ((as.reverse ++ st').map gv)).stack = (as.map gv).reverse ++ st'.map gv := by
    show (as.reverse ++ st').map gv = _
    rw [List.map_append, List.map_reverse]
  have hW : 2 * (F0 m pc ls ((as.reverse ++ st').map gv)).monitorRoom + ((st'.map gv).map fun v => v.category).sum ≤ 8 := lv_room (by rw [g_sum]; exact r5)
  rcases wl with wl | ⟨host, wl⟩
  · exact va_runS (As := as.map gv) (rest := st'.map gv) (bytes := yB Y') (maxL := yL Y') (ret := yR Y') (n := n) ⟨hx, hbb, hml, hown, hts⟩ (km l E).2
      ⟨callB_of n hts (g_good wc) (by rw [hcd]) rfl rfl (hts _ (List.mem_cons_of_mem _ wn)) (hts _ (List.mem_cons_of_mem _ wl)) ⟨y1, y2, r2⟩ ⟨r3, r4⟩, hts _ (List.mem_cons_of_mem _ wi)⟩
      ⟨g_blind, g_pre hH hS hK⟩ rfl (by rw [List.length_map]; exact r1) hl.1 hstk hW hdg ⟨hc1, hc2⟩
  · exact va_runSN (As := as.map gv) (rest := st'.map gv) (bytes := yB Y') (maxL := yL Y') (ret := yR Y') (n := n) (host := host) ⟨hx, hbb, hml, hown, hts⟩ (km l E).2
      ⟨va_cnB n hts (g_good wc) (by rw [hcd]) rfl rfl (hK.2.2.2.1 _ wl) (hts _ (List.mem_cons_of_mem _ wn)) ⟨y1, y2, r2⟩ ⟨r3, r4⟩, hts _ (List.mem_cons_of_mem _ wi), trivial⟩
      ⟨g_blind, g_pre hH hS hK⟩ rfl (by rw [List.length_map]; exact r1) hl.1 hstk hW hdg ⟨hc1, hc2⟩
/-- Object's constructor -/
theorem x_objinit (pc : Nat) {idx : Nat} {r : Option Nat} {b : Nat} (hr0 : r = some b) (w1 : Cond.methodLink (yO Y) idx Lib.objectInit ∈ gT) (w2 : Cond.instanceMethod Lib.objectInit ∈ gT) (w3 : Cond.code Lib.objectInit ⟨#[0xb1]⟩ 1 none ∈ gT) (hf : 1 ≤ yF Y) (hlo : (st.map gc).sum + 12 ≤ yW Y) (hdg : decode (yB Y) pc = .ok (.invokespecial idx, 3)) (k : xX l E Y n0 s0 rv res (pc + 3) lv st mm) : xX l E Y n0 s0 rv res pc lv (.inr (.inr r) :: st) mm := by
  subst hr0
  refine x_same (fun {p e s m args below meth c H locs ls cells slots Q} Cx hH hS hl _ _ kk => ?_) k
  obtain ⟨hx, hb, hr, hml, hown, hts, hlocks, hname, hK⟩ := Cx
  refine W.objInit hx hb hown (hts _ (List.mem_cons_of_mem _ w1)) (hts _ (List.mem_cons_of_mem _ w2)) (hts _ (List.mem_cons_of_mem _ w3)) rfl (by rw [hml]; exact hl.1) (a := b) (rest := st.map gv) rfl hdg hf (by show 2 * 0 + _ + 12 ≤ yW Y; rw [g_sum]; omega) (kk _ hl)
end GX4
