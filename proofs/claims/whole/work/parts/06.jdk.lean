/-! the JDK's own: the empty array of lists, getClass and the mirror of Object[], clone of an int array -/
def gmi (t : Nat) (r : Option Nat) (mm : gM) : Option (Option Nat) := match gar r mm with
  | some x => if x.1 = t then some (some (mm.2.2.2.1 1)) else none
  | none => none
def gclI (t : Nat) (r : Option Nat) (mm : gM) : Option (Option Nat × gM) := match gar r mm with
  | some (t', n, .inl f) => if t' = t then some (some mm.2.1, gN mm (.inl (t, n, .inl f)) n) else none
  | _ => none
def gcsA (t : Nat) (r : Option Nat) (mm : gM) : Option Unit := match gar r mm with
  | some x => if x.1 = t then some () else none
  | none => none
def gCln (own : String) (idx : Nat) : Prop := Cond.methodLink own idx ⟨"[I", "clone", "()Ljava/lang/Object;"⟩ ∈ gT ∧ Cond.sameMethod "[I" "java/lang/Object" "clone" "()Ljava/lang/Object;" ∈ gT ∧ Cond.native ⟨"java/lang/Object", "clone", "()Ljava/lang/Object;"⟩ ∈ gT ∧ Cond.instanceMethod ⟨"java/lang/Object", "clone", "()Ljava/lang/Object;"⟩ ∈ gT ∧ Cond.selects "[I" ⟨"[I", "clone", "()Ljava/lang/Object;"⟩ ⟨"java/lang/Object", "clone", "()Ljava/lang/Object;"⟩ ∈ gT ∧ ("[I", "java/lang/Cloneable") ∈ gNC
section GX6
variable {l : Launch} {E : gD} {Y : gY} {n0 s0 : Nat} {rv : Option Value} {res mm mm1 : gM} {lv lv' : List (Nat × gV)} {st st' : List gV}
theorem x_getS (pc : Nat) {idx : Nat} (w : Cond.fieldLink (yO Y) idx "java/util/ArrayList" "DEFAULTCAPACITY_EMPTY_ELEMENTDATA" "[Ljava/lang/Object;" ∈ gT) (hdg : decode (yB Y) pc = .ok (.getstatic idx, 3)) (kk : xX l E Y n0 s0 rv res (pc + 3) lv (.inr (.inr (some (mm.2.2.2.1 0))) :: st) mm) : xX l E Y n0 s0 rv res pc lv st mm := by
  refine x_same (fun {p e s m args below meth c H locs ls cells slots Q} Cx hH hS hl _ _ kk => ?_) kk
  obtain ⟨hx, hb, hr, hml, hown, hts, hlocks, hname, hK⟩ := Cx
  have hZ := hK.2.2.2.2.2.2.1 _ (List.mem_cons_self (a := ("java/util/ArrayList", "DEFAULTCAPACITY_EMPTY_ELEMENTDATA", "[Ljava/lang/Object;", 0)) (l := []))
  dsimp only at hZ
  rw [← hH.1.2.2] at hZ
  exact va_gets hx hb hZ hS hown (hts _ (List.mem_cons_of_mem _ w)) (fun _ h => h) hdg (kk _ hl)
theorem x_ldcM (pc : Nat) {idx : Nat} (w : Cond.classLink (yO Y) idx "[Ljava/lang/Object;" ∈ gT) (hdg : decode (yB Y) pc = .ok (.ldc idx, 2)) (kk : xX l E Y n0 s0 rv res (pc + 2) lv (.inr (.inr (some (mm.2.2.2.1 1))) :: st) mm) : xX l E Y n0 s0 rv res pc lv st mm := by
  refine x_same (fun {p e s m args below meth c H locs ls cells slots Q} Cx hH hS hl _ _ kk => ?_) kk
  obtain ⟨hx, hb, hr, hml, hown, hts, hlocks, hname, hK⟩ := Cx
  have hM := hK.2.2.2.2.2.2.2.2.1
  rw [← hH.1.2.2] at hM
  exact va_ldcM hx hb hown (hts _ (List.mem_cons_of_mem _ w)) hM hdg (kk _ hl)
theorem x_getC (pc : Nat) {idx : Nat} {r v : Option Nat} (hv : gmi 4 r mm = some v) (w1 : Cond.methodLink (yO Y) idx ⟨"java/lang/Object", "getClass", "()Ljava/lang/Class;"⟩ ∈ gT) (w2 : Cond.selects "[Ljava/lang/Object;" ⟨"java/lang/Object", "getClass", "()Ljava/lang/Class;"⟩ ⟨"java/lang/Object", "getClass", "()Ljava/lang/Class;"⟩ ∈ gT) (w3 : Cond.instanceMethod ⟨"java/lang/Object", "getClass", "()Ljava/lang/Class;"⟩ ∈ gT) (w4 : Cond.native ⟨"java/lang/Object", "getClass", "()Ljava/lang/Class;"⟩ ∈ gT) (hf : 1 ≤ yF Y) (hlo : (st.map gc).sum + 14 ≤ yW Y) (hdg : decode (yB Y) pc = .ok (.invokevirtual idx, 3)) (kk : xX l E Y n0 s0 rv res (pc + 3) lv (.inr (.inr v) :: st) mm) : xX l E Y n0 s0 rv res pc lv (.inr (.inr r) :: st) mm := by
  unfold gmi at hv
  split at hv
  case h_2 => cases hv
  next x hg =>
  by_cases hx4 : x.1 = 4
  case neg => rw [if_neg hx4] at hv; cases hv
  rw [if_pos hx4] at hv
  cases hv
  obtain ⟨a, rfl, hm⟩ := gar_spec hg
  refine x_same (fun {p e s m args below meth c H locs ls cells slots Q} Cx hH hS hl _ _ kk => ?_) kk
  obtain ⟨hx, hb, hr, hml, hown, hts, hlocks, hname, hK⟩ := Cx
  have hM := hK.2.2.2.2.2.2.2.2.1
  have hDc := hK.2.2.2.2.2.2.2.2.2.1
  rw [← hH.1.2.2] at hM
  obtain ⟨-, ⟨cA, ty⟩, hq, hc⟩ := hH.2 a _ hm
  rw [hx4] at hq
  obtain ⟨rfl, -, kA, comp, -, -, -, hNm⟩ := g_ty hK hq (show gTys[4]? = some (.object "java/lang/Object") from rfl)
  refine va_getC hx hb (by rw [hml]; exact hl.1.symm) hown (hts _ (List.mem_cons_of_mem _ w1)) (va_Dc.use hDc) (hts _ (List.mem_cons_of_mem _ w2)) (hts _ (List.mem_cons_of_mem _ w3)) (hts _ (List.mem_cons_of_mem _ w4)) hM ⟨_, hc, ?_, ?_⟩ hf (by rw [g_sum]; exact hlo) hdg (kk _ hl)
  · obtain ⟨t0, n, f | f | f | f | f⟩ := x <;> rfl
  · have hcls : (vp_cell cA x.2).cls = cA := by obtain ⟨t0, n, f | f | f | f | f⟩ := x <;> rfl
    rw [hcls]
    exact hNm
theorem x_cloneI (pc : Nat) {idx t : Nat} {r v : Option Nat} (w : gCln (yO Y) idx) (ht : gTys[t]? = some .int) (hv : gclI t r mm = some (v, mm1)) (hf : 1 ≤ yF Y) (hlo : (st.map gc).sum + 14 ≤ yW Y) (hdg : decode (yB Y) pc = .ok (.invokevirtual idx, 3)) (kk : xX l E Y n0 s0 rv res (pc + 3) lv (.inr (.inr v) :: st) mm1) : xX l E Y n0 s0 rv res pc lv (.inr (.inr r) :: st) mm := by
  obtain ⟨w1, w2, w3, w4, w5, w6⟩ := w
  unfold gclI at hv
  split at hv
  case h_2 => cases hv
  next t' n f hg =>
  by_cases htt : t' = t
  case neg => rw [if_neg htt] at hv; cases hv
  rw [if_pos htt] at hv
  cases hv
  subst htt
  obtain ⟨a, rfl, hm⟩ := gar_spec hg
  refine x_make (mm1 := gN mm _ _) (n := n) rfl (fun {p e s m args below meth c H locs ls cells slots Q} Cx hH hS hl hc1 hc2 kk => ?_) kk
  obtain ⟨hx, hb, hr, hml, hown, hts0, hlocks, hname, hK⟩ := Cx
  have hts : ∀ w ∈ gT, w.before args s = true := fun w h => hts0 w (List.mem_cons_of_mem _ h)
  obtain ⟨h100, ⟨cA, ty⟩, hq, hcell⟩ := hH.2 a _ hm
  have hgA := g_new hH
  have h99 : t' < 100 := by
    have h1 : t' < gTys.length := (List.getElem?_eq_some_iff.mp ht).1
    have h2 : gTys.length ≤ 100 := by decide
    omega
  have hq' : E.2.1[t']? = some (cA, ty) := by
    dsimp only at hq
    rw [Nat.mod_eq_of_lt h99] at hq
    exact hq
  obtain ⟨hty, hAr, hRA⟩ := g_ty hK hq' ht
  dsimp only at hty hcell hRA
  have hty2 : ty = .int := hty
  subst hty2
  have hnm : s.vm.findClass "[I" = some cA := hRA
  obtain ⟨c0, t0', f1, f2, f3⟩ := Cond.castable_spec (va_Nw.use (A := args) rfl (hK.2.2.2.2.1 _ w6))
  cases hnm.symm.trans f1
  intro T hT X
  have hsz : (vp_cell cA (n, .inl f)).slots.size = n := arrV_size _ _ _
  have hcellT : T.heap[a]? = some (vp_cell cA (n, .inl f)) := by rw [hT]; exact hcell
  obtain ⟨-, kA, hkA, comp, hkind⟩ := State.isArrayOf_alike X.warmed.alike (hAr 0 (fun _ => .null))
  obtain ⟨-, kS, hkS, compS, hkindS⟩ := hAr 0 (fun _ => .null)
  obtain ⟨vm', X', stp⟩ := X.cloneArray hx hown (hts _ w1) (hts _ w2) (hts _ w3) (hts _ w4) (hts _ w5) (a := a) (cell := vp_cell cA (n, .inl f)) hcellT (fun k h => by cases h) (fun h => by cases h) hnm f2 f3
    (fun i v hv => by
      have hk' : T.vm.classes[cA]? = some kA := hkA
      have hv2 := va_fit (cA := cA) (n := n) (F := fun j => .int (f j)) (ty := .int) (fun i _ => rfl) i v hv
      show T.fitsSlot cA .none i v = true
      simpa [State.fitsSlot, State.slotType?, hk', hkind] using hv2)
    (g := F0 m pc ls ((.inr (.inr (some a)) :: st : List gV).map gv)) rfl (by rw [hml]; exact hl.1) (rest := st.map gv) rfl (by rw [hb]; exact hdg) hf (by show 2 * 0 + _ + 14 ≤ _; rw [g_sum]; show _ ≤ yW Y; omega) hc1 (by rw [hsz]; exact hc2) (hloader := Vm.clonesLoader_of_array hkS hkindS)
  rw [hsz] at X'
  generalize hH1 : H.push (vp_cell cA (n, .inl f)) = H1
  have z1 : H1.size = H.size + 1 := by rw [← hH1, Array.size_push]
  have e1 : H1[H.size]? = some (vp_cell cA (n, .inl f)) := by rw [← hH1, Array.getElem?_push_size]
  have o1 : ∀ q : Nat, q < H.size → H1[q]? = H[q]? := fun q hq => by rw [← hH1, Array.getElem?_push, if_neg (Nat.ne_of_lt hq)]
  obtain ⟨t2, b1, b2⟩ := kk H1 locs (hH.push ⟨fun _ => hgA, (cA, .int), hq, e1⟩ z1 o1) ⟨Nat.le_trans hS.1 (by omega), fun q h1 h2 => (o1 q (Nat.lt_of_lt_of_le h1 hS.1)).trans (hS.2.1 q h1 h2), hS.2.2⟩
    ((T.setVm vm').pushCell (vp_cell cA (n, .inl f))) (by rw [← hH1, ← hT]; rfl) X'
  refine ⟨t2, stp t2 ?_, b2⟩
  rw [hT, hH.1.1]
  exact b1
theorem x_castI (pc : Nat) {idx t : Nat} {r : Option Nat} {u : Unit} (ht : gTys[t]? = some .int) (hv : gcsA t r mm = some u) (w : Cond.classLink (yO Y) idx "[I" ∈ gT) (hdg : decode (yB Y) pc = .ok (.checkcast idx, 3)) (kk : xX l E Y n0 s0 rv res (pc + 3) lv (.inr (.inr r) :: st) mm) : xX l E Y n0 s0 rv res pc lv (.inr (.inr r) :: st) mm := by
  unfold gcsA at hv
  split at hv
  case h_2 => cases hv
  next x hg =>
  by_cases hxt : x.1 = t
  case neg => rw [if_neg hxt] at hv; cases hv
  obtain ⟨a, rfl, hm⟩ := gar_spec hg
  refine x_same (fun {p e s m args below meth c H locs ls cells slots Q} Cx hH hS hl _ _ kk => ?_) kk
  obtain ⟨hx, hb, hr, hml, hown, hts, hlocks, hname, hK⟩ := Cx
  obtain ⟨-, ⟨cA, ty⟩, hq, hc⟩ := hH.2 a _ hm
  have h99 : t < 100 := by
    have h1 : t < gTys.length := (List.getElem?_eq_some_iff.mp ht).1
    have h2 : gTys.length ≤ 100 := by decide
    omega
  rw [hxt, Nat.mod_eq_of_lt h99] at hq
  obtain ⟨-, -, hRA⟩ := g_ty hK hq ht
  have hnm : s.vm.findClass "[I" = some cA := hRA
  exact va_castA (D := E.1) (cl := gCl) (ws := [(a, .inl (cA, x.2))]) hx hb hown (hts _ (List.mem_cons_of_mem _ w)) (g_one hc) 0 rfl hnm hdg (kk _ hl)
end GX6
