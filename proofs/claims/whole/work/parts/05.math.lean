/-! switches, Math, System.arraycopy -/
def gcI (t : Nat) (r0 : Option Nat) (sp : Int32) (r1 : Option Nat) (dp n : Int32) (mm : gM) : Option gM := match gar r0 mm with
  | some (t0, n0, .inl f) => match gar r1 mm with
    | some (t1, n1, .inl g) => if t0 % 100 = t ∧ t1 = t ∧ ¬ sp < 0 ∧ ¬ dp < 0 ∧ ¬ n < 0 ∧ sp.toNatClampNeg + n.toNatClampNeg ≤ n0 ∧ dp.toNatClampNeg + n.toNatClampNeg ≤ n1 then some (gU mm (r1.getD 0) (.inl (t, n1, .inl (va_cpy f g sp.toNatClampNeg dp.toNatClampNeg n.toNatClampNeg)))) else none
    | _ => none
  | _ => none
theorem gcI_spec {t : Nat} {r0 r1 : Option Nat} {sp dp n : Int32} {mm mm1 : gM} (h : gcI t r0 sp r1 dp n mm = some mm1) : ∃ (a0 t0 n0 : Nat) (f : Nat → Int32) (a1 n1 : Nat) (g : Nat → Int32), r0 = some a0 ∧ r1 = some a1 ∧ mm.1 a0 = some (.inl (t0, n0, .inl f)) ∧ mm.1 a1 = some (.inl (t, n1, .inl g)) ∧ t0 % 100 = t ∧ ¬ sp < 0 ∧ ¬ dp < 0 ∧ ¬ n < 0 ∧ sp.toNatClampNeg + n.toNatClampNeg ≤ n0 ∧ dp.toNatClampNeg + n.toNatClampNeg ≤ n1 ∧ mm1 = gU mm a1 (.inl (t, n1, .inl (va_cpy f g sp.toNatClampNeg dp.toNatClampNeg n.toNatClampNeg))) := by
  unfold gcI at h
  split at h
  · next t0 n0 f hg0 =>
    split at h
    · next t1 n1 g hg1 =>
      obtain ⟨a0, rfl, hm0⟩ := gar_spec hg0
      obtain ⟨a1, rfl, hm1⟩ := gar_spec hg1
      by_cases hc : t0 % 100 = t ∧ t1 = t ∧ ¬ sp < 0 ∧ ¬ dp < 0 ∧ ¬ n < 0 ∧ sp.toNatClampNeg + n.toNatClampNeg ≤ n0 ∧ dp.toNatClampNeg + n.toNatClampNeg ≤ n1
      · rw [if_pos hc] at h; cases h
        obtain ⟨h1, rfl, h2⟩ := hc
        exact ⟨a0, t0, n0, f, a1, n1, g, rfl, rfl, hm0, hm1, h1, h2.1, h2.2.1, h2.2.2.1, h2.2.2.2.1, h2.2.2.2.2, rfl⟩
      · rw [if_neg hc] at h; cases h
    · cases h
  · cases h
def gcR (t : Nat) (cs : List Nat) (r0 : Option Nat) (sp : Int32) (r1 : Option Nat) (dp n : Int32) (mm : gM) : Option gM := match gar r0 mm with
  | some (t0, n0, .inr (.inr (.inr (.inr f)))) => match gar r1 mm with
    | some (t1, n1, .inr (.inr (.inr (.inr g)))) => if t0 % 100 = t ∧ t1 = t ∧ ¬ sp < 0 ∧ ¬ dp < 0 ∧ ¬ n < 0 ∧ sp.toNatClampNeg + n.toNatClampNeg ≤ n0 ∧ dp.toNatClampNeg + n.toNatClampNeg ≤ n1 ∧ (List.range n.toNatClampNeg).all (fun i => gok cs (f (sp.toNatClampNeg + i)) mm) = true then some (gU mm (r1.getD 0) (.inl (t, n1, .inr (.inr (.inr (.inr (va_cpy f g sp.toNatClampNeg dp.toNatClampNeg n.toNatClampNeg))))))) else none
    | _ => none
  | _ => none
theorem gcR_spec {t : Nat} {cs : List Nat} {r0 r1 : Option Nat} {sp dp n : Int32} {mm mm1 : gM} (h : gcR t cs r0 sp r1 dp n mm = some mm1) : ∃ (a0 t0 n0 : Nat) (f : Nat → Option Nat) (a1 n1 : Nat) (g : Nat → Option Nat), r0 = some a0 ∧ r1 = some a1 ∧ mm.1 a0 = some (.inl (t0, n0, .inr (.inr (.inr (.inr f))))) ∧ mm.1 a1 = some (.inl (t, n1, .inr (.inr (.inr (.inr g))))) ∧ t0 % 100 = t ∧ ¬ sp < 0 ∧ ¬ dp < 0 ∧ ¬ n < 0 ∧ sp.toNatClampNeg + n.toNatClampNeg ≤ n0 ∧ dp.toNatClampNeg + n.toNatClampNeg ≤ n1 ∧ (∀ i, i < n.toNatClampNeg → gok cs (f (sp.toNatClampNeg + i)) mm = true) ∧ mm1 = gU mm a1 (.inl (t, n1, .inr (.inr (.inr (.inr (va_cpy f g sp.toNatClampNeg dp.toNatClampNeg n.toNatClampNeg)))))) := by
  unfold gcR at h
  split at h
  · next t0 n0 f hg0 =>
    split at h
    · next t1 n1 g hg1 =>
      obtain ⟨a0, rfl, hm0⟩ := gar_spec hg0
      obtain ⟨a1, rfl, hm1⟩ := gar_spec hg1
      by_cases hc : t0 % 100 = t ∧ t1 = t ∧ ¬ sp < 0 ∧ ¬ dp < 0 ∧ ¬ n < 0 ∧ sp.toNatClampNeg + n.toNatClampNeg ≤ n0 ∧ dp.toNatClampNeg + n.toNatClampNeg ≤ n1 ∧ (List.range n.toNatClampNeg).all (fun i => gok cs (f (sp.toNatClampNeg + i)) mm) = true
      · rw [if_pos hc] at h; cases h
        obtain ⟨h1, rfl, h2⟩ := hc
        exact ⟨a0, t0, n0, f, a1, n1, g, rfl, rfl, hm0, hm1, h1, h2.1, h2.2.1, h2.2.2.1, h2.2.2.2.1, h2.2.2.2.2.1, fun i hi => List.all_eq_true.mp h2.2.2.2.2.2 i (List.mem_range.mpr hi), rfl⟩
      · rw [if_neg hc] at h; cases h
    · cases h
  · cases h
theorem g_nn (z : Int32) (hz : ¬ z < 0) : z.toInt = (z.toNatClampNeg : Int) := by
  have hz0 : (0 : Int) ≤ z.toInt := by
    have := Int32.not_lt.mp hz
    simpa using Int32.le_iff_toInt_le.mp this
  show z.toInt = ((z.toInt.toNat : Nat) : Int)
  omega
section GX5
variable {l : Launch} {E : gD} {Y : gY} {n0 s0 : Nat} {rv : Option Value} {res mm mm1 : gM} {lv lv' : List (Nat × gV)} {st st' : List gV}
theorem x_tsIn (pc tgt : Nat) (k : Int32) {x : Int32} {dflt lo hi off : Int} {offs : Array Int} {len : Nat} (hx : x = k) (hdg : decode (yB Y) pc = .ok (.tableswitch dflt lo hi offs, len)) (h1 : ¬ k.toInt < lo) (h2 : ¬ hi < k.toInt) (ho : offs[(k.toInt - lo).toNat]? = some off) (ht : (pc : Int) + off = (tgt : Int)) (kk : xX l E Y n0 s0 rv res tgt lv st mm) : xX l E Y n0 s0 rv res pc lv (.inl x :: st) mm := by
  subst hx
  exact x_same (fun C hH hS hl _ _ kk => lv_tableIn C.1 C.2.1 hdg h1 h2 ho ht (kk _ hl)) kk
theorem x_tsOut (pc tgt : Nat) {x : Int32} {dflt lo hi : Int} {offs : Array Int} {len : Nat} (hdg : decode (yB Y) pc = .ok (.tableswitch dflt lo hi offs, len)) (h : x.toInt < lo ∨ hi < x.toInt) (ht : (pc : Int) + dflt = (tgt : Int)) (kk : xX l E Y n0 s0 rv res tgt lv st mm) : xX l E Y n0 s0 rv res pc lv (.inl x :: st) mm :=
  x_same (fun C hH hS hl _ _ kk => lv_tableOut C.1 C.2.1 hdg h ht (kk _ hl)) kk
theorem g_ne {x : Int32} (k : Int32) (h : ¬ x = k) : x.toInt ≠ k.toInt := fun z => h (Int32.toInt_inj.mp z)
theorem x_mmax (pc : Nat) {idx : Nat} {x y : Int32} (w1 : Cond.methodLink (yO Y) idx Lib.Math.max.name ∈ gT) (w2 : Cond.static Lib.Math.max.name ∈ gT) (w3 : Cond.initialized "java/lang/Math" ∈ gT) (w4 : Cond.code Lib.Math.max.name Lib.Math.max.code 2 (some .int) ∈ gT) (hf : 1 ≤ yF Y) (hlo : (st.map gc).sum + 13 ≤ yW Y) (hdg : decode (yB Y) pc = .ok (.invokestatic idx, 3)) (kk : xX l E Y n0 s0 rv res (pc + 3) lv (.inl (if x < y then y else x) :: st) mm) : xX l E Y n0 s0 rv res pc lv (.inl y :: .inl x :: st) mm := by
  refine x_same (fun {p e s m args below meth c H locs ls cells slots Q} Cx hH hS hl hc1 hc2 kk => ?_) kk
  obtain ⟨hx, hb, hr, hml, hown, hts, hlocks, hname, hK⟩ := Cx
  exact va_mmax hx hb (by rw [hml]; exact hl.1.symm) hown (hts _ (List.mem_cons_of_mem _ w1)) (hts _ (List.mem_cons_of_mem _ w2)) (hts _ (List.mem_cons_of_mem _ w3)) (hts _ (List.mem_cons_of_mem _ w4)) hf (by rw [g_sum]; exact hlo) hc1 hc2 hdg (kk _ hl)
theorem x_mmin (pc : Nat) {idx : Nat} {x y : Int32} (w1 : Cond.methodLink (yO Y) idx Lib.Math.min.name ∈ gT) (w2 : Cond.static Lib.Math.min.name ∈ gT) (w3 : Cond.initialized "java/lang/Math" ∈ gT) (w4 : Cond.code Lib.Math.min.name Lib.Math.min.code 2 (some .int) ∈ gT) (hf : 1 ≤ yF Y) (hlo : (st.map gc).sum + 13 ≤ yW Y) (hdg : decode (yB Y) pc = .ok (.invokestatic idx, 3)) (kk : xX l E Y n0 s0 rv res (pc + 3) lv (.inl (if y < x then y else x) :: st) mm) : xX l E Y n0 s0 rv res pc lv (.inl y :: .inl x :: st) mm := by
  refine x_same (fun {p e s m args below meth c H locs ls cells slots Q} Cx hH hS hl hc1 hc2 kk => ?_) kk
  obtain ⟨hx, hb, hr, hml, hown, hts, hlocks, hname, hK⟩ := Cx
  exact va_mmin hx hb (by rw [hml]; exact hl.1.symm) hown (hts _ (List.mem_cons_of_mem _ w1)) (hts _ (List.mem_cons_of_mem _ w2)) (hts _ (List.mem_cons_of_mem _ w3)) (hts _ (List.mem_cons_of_mem _ w4)) hf (by rw [g_sum]; exact hlo) hc1 hc2 hdg (kk _ hl)
theorem x_mmaxL (pc : Nat) {idx : Nat} {x y : Int64} (w1 : Cond.methodLink (yO Y) idx Lib.MathLoose.max_long.x ∈ gT) (w2 : Cond.static Lib.MathLoose.max_long.x ∈ gT) (w3 : Cond.initialized "java/lang/Math" ∈ gT) (w4 : Cond.code Lib.MathLoose.max_long.x Lib.MathLoose.max_long.code 4 (some .long) ∈ gT) (hf : 1 ≤ yF Y) (hlo : (st.map gc).sum + 15 ≤ yW Y) (hdg : decode (yB Y) pc = .ok (.invokestatic idx, 3)) (kk : xX l E Y n0 s0 rv res (pc + 3) lv (.inr (.inl (if y < x then x else y)) :: st) mm) : xX l E Y n0 s0 rv res pc lv (.inr (.inl y) :: .inr (.inl x) :: st) mm := by
  refine x_same (fun {p e s m args below meth c H locs ls cells slots Q} Cx hH hS hl hc1 hc2 kk => ?_) kk
  obtain ⟨hx, hb, hr, hml, hown, hts, hlocks, hname, hK⟩ := Cx
  exact va_mmax_long hx hb (by rw [hml]; exact hl.1.symm) hown (hts _ (List.mem_cons_of_mem _ w1)) (hts _ (List.mem_cons_of_mem _ w2)) (hts _ (List.mem_cons_of_mem _ w3)) (hts _ (List.mem_cons_of_mem _ w4)) hf (by rw [g_sum]; exact hlo) hc1 hc2 hdg (kk _ hl)
theorem x_mabsL (pc : Nat) {idx : Nat} {x : Int64} (w1 : Cond.methodLink (yO Y) idx Lib.MathLoose.abs_long.x ∈ gT) (w2 : Cond.static Lib.MathLoose.abs_long.x ∈ gT) (w3 : Cond.initialized "java/lang/Math" ∈ gT) (w4 : Cond.code Lib.MathLoose.abs_long.x Lib.MathLoose.abs_long.code 2 (some .long) ∈ gT) (hf : 1 ≤ yF Y) (hlo : (st.map gc).sum + 13 ≤ yW Y) (hdg : decode (yB Y) pc = .ok (.invokestatic idx, 3)) (kk : xX l E Y n0 s0 rv res (pc + 3) lv (.inr (.inl (if 0 < x then x else -x)) :: st) mm) : xX l E Y n0 s0 rv res pc lv (.inr (.inl x) :: st) mm := by
  refine x_same (fun {p e s m args below meth c H locs ls cells slots Q} Cx hH hS hl hc1 hc2 kk => ?_) kk
  obtain ⟨hx, hb, hr, hml, hown, hts, hlocks, hname, hK⟩ := Cx
  exact va_mabs_long hx hb (by rw [hml]; exact hl.1.symm) hown (hts _ (List.mem_cons_of_mem _ w1)) (hts _ (List.mem_cons_of_mem _ w2)) (hts _ (List.mem_cons_of_mem _ w3)) (hts _ (List.mem_cons_of_mem _ w4)) hf (by rw [g_sum]; exact hlo) hc1 hc2 hdg (kk _ hl)
def gArr (own : String) (idx : Nat) : Prop := Cond.methodLink own idx arraycopyName ∈ gT ∧ Cond.native arraycopyName ∈ gT ∧ Cond.static arraycopyName ∈ gT ∧ Cond.initialized "java/lang/System" ∈ gT
theorem x_copyI (pc : Nat) {idx t : Nat} {r0 r1 : Option Nat} {sp dp n : Int32} (h100 : t < 100) (ht : gTys[t]? = some .int) (w : gArr (yO Y) idx) (hv : gcI t r0 sp r1 dp n mm = some mm1) (hf : 1 ≤ yF Y) (hlo : (st.map gc).sum + (nativeFrameWords "java/lang/System" "arraycopy" 5 + 11) ≤ yW Y) (hdg : decode (yB Y) pc = .ok (.invokestatic idx, 3)) (kk : xX l E Y n0 s0 rv res (pc + 3) lv st mm1) : xX l E Y n0 s0 rv res pc lv (.inl n :: .inl dp :: .inr (.inr r1) :: .inl sp :: .inr (.inr r0) :: st) mm := by
  obtain ⟨a0, t0, n0', f, a, n1, g, rfl, rfl, hm0, hm1, ht0, h1, h2, h3, h4, h5, rfl⟩ := gcI_spec hv
  obtain ⟨w1, w2, w3, w4⟩ := w
  refine x_write (mm1 := gU mm a _) rfl (fun {p e s m args below meth c H locs ls cells slots Q} Cx hH hS hl _ _ kk => ?_) kk
  obtain ⟨hx, hb, hr, hml, hown, hts0, hlocks, hname, hK⟩ := Cx
  have hts : ∀ w ∈ gT, w.before args s = true := fun w h => hts0 w (List.mem_cons_of_mem _ h)
  obtain ⟨-, ⟨c0, ty0⟩, hq0, hc0⟩ := hH.2 a0 _ hm0
  obtain ⟨hgA, ⟨c1, ty1⟩, hq1, hc1⟩ := hH.2 a _ hm1
  dsimp only at hq0 hc0 hc1
  have hq1' := hq1
  dsimp only at hq1'
  rw [Nat.mod_eq_of_lt h100] at hq1'
  rw [ht0] at hq0
  obtain ⟨rfl, hA0, -⟩ := g_ty hK hq0 ht
  obtain ⟨rfl, hA1, -⟩ := g_ty hK hq1' ht
  intro T hT X
  obtain ⟨-, k0, hk0, cm0, hkk0⟩ := hA0 n0' (fun j => .int (f j))
  obtain ⟨-, k1, hk1, cm1, hkk1⟩ := hA1 n1 (fun j => .int (g j))
  obtain ⟨vm', X', step⟩ := X.arraycopy hx hown (hts _ w1) (hts _ w2) (hts _ w3) (hts _ w4) (src := a0) (dst := a) (cs := vp_cell c0 (n0', .inl f)) (cd := vp_cell c1 (n1, .inl g)) (srcPos := sp) (destPos := dp) (n := n) (by rw [hT]; exact hc0) (by rw [hT]; exact hc1)
    (fun _ h => by cases h) (fun _ h => by cases h) (fun h => by cases h) (fun h => by cases h) hk0 hk1 hkk0 hkk1 (by simp [refKind]) h1 h2 h3
    (by rw [g_nn sp h1, g_nn n h3]; show ¬ _ > ((arrV c0 n0' (fun j => .int (f j))).slots.size : Int); rw [arrV_size]; omega)
    (by rw [g_nn dp h2, g_nn n h3]; show ¬ _ > ((arrV c1 n1 (fun j => .int (g j))).slots.size : Int); rw [arrV_size]; omega)
    (fun vm₁ _ i hi => by
      have e : (vp_cell c0 (n0', .inl f)).slots.getD (sp.toNatClampNeg + i) .null = .int (f (sp.toNatClampNeg + i)) := by
        show (arrV c0 n0' (fun j => .int (f j))).slots.getD _ _ = _
        rw [Array.getD_eq_getD_getElem?, arrV_read _ _ (by omega)]
        rfl
      refine ⟨?_, ?_⟩
      · rw [e]
        rfl
      · rw [e]
        exact trivial)
    (g := F0 m pc ls ((.inl n :: .inl dp :: .inr (.inr (some a)) :: .inl sp :: .inr (.inr (some a0)) :: st : List gV).map gv)) rfl (by rw [hml]; exact hl.1) (rest := st.map gv) rfl (by rw [hb]; exact hdg) hf (by show 2 * 0 + _ + _ ≤ _; rw [g_sum]; show _ ≤ yW Y; omega)
  have e1 : copied (vp_cell c0 (n0', .inl f)) (vp_cell c1 (n1, .inl g)) sp dp n = vp_cell c1 (n1, .inl (va_cpy f g sp.toNatClampNeg dp.toNatClampNeg n.toNatClampNeg)) := va_copied (fun z => .int z) c0 c1 f g h4
  rw [e1] at X' step
  have hl2 : a < H.size := (Array.getElem?_eq_some_iff.mp hc1).1
  have hheap : ((T.setVm vm').setCell a (vp_cell c1 (n1, .inl (va_cpy f g sp.toNatClampNeg dp.toNatClampNeg n.toNatClampNeg)))).heap = H.setIfInBounds a (vp_cell c1 (n1, .inl (va_cpy f g sp.toNatClampNeg dp.toNatClampNeg n.toNatClampNeg))) := by rw [← hT]; rfl
  have oq : ∀ q : Nat, q ≠ a → (H.setIfInBounds a (vp_cell c1 (n1, .inl (va_cpy f g sp.toNatClampNeg dp.toNatClampNeg n.toNatClampNeg))))[q]? = H[q]? := fun q hq => by simp [Array.getElem?_setIfInBounds, Ne.symm hq]
  obtain ⟨t, a1, b1⟩ := kk _ _ (hH.put ⟨hgA, _, hq1, (show (H.setIfInBounds a _)[a]? = some _ by simp [Array.getElem?_setIfInBounds, hl2])⟩ (by simp) oq) ⟨by simp; exact hS.1, fun q g1 g2 => by
      rw [oq q (fun e => g2 (by rw [e]; exact hgA h100))]
      exact hS.2.1 q g1 g2, fun q hq => by
      rcases List.mem_append.mp hq with h | h
      · exact hS.2.2 q h
      · obtain ⟨z, -, hz⟩ := List.mem_map.mp h
        rw [← hz]
        exact hgA h100⟩ _ hheap X'
  exact ⟨t, step t a1, b1⟩
theorem x_copyR (pc : Nat) {idx t : Nat} {cs : List Nat} {C : String} {r0 r1 : Option Nat} {sp dp n : Int32} (h100 : t < 100) (ht : gTys[t]? = some (.object C)) (hI : gInto cs C) (w : gArr (yO Y) idx) (hv : gcR t cs r0 sp r1 dp n mm = some mm1) (hf : 1 ≤ yF Y) (hlo : (st.map gc).sum + (nativeFrameWords "java/lang/System" "arraycopy" 5 + 11) ≤ yW Y) (hdg : decode (yB Y) pc = .ok (.invokestatic idx, 3)) (kk : xX l E Y n0 s0 rv res (pc + 3) lv st mm1) : xX l E Y n0 s0 rv res pc lv (.inl n :: .inl dp :: .inr (.inr r1) :: .inl sp :: .inr (.inr r0) :: st) mm := by
  obtain ⟨a0, t0, n0', f, a, n1, g, rfl, rfl, hm0, hm1, ht0, h1, h2, h3, h4, h5, hel, rfl⟩ := gcR_spec hv
  obtain ⟨w1, w2, w3, w4⟩ := w
  refine x_write (mm1 := gU mm a _) rfl (fun {p e s m args below meth c H locs ls cells slots Q} Cx hH hS hl _ _ kk => ?_) kk
  obtain ⟨hx, hb, hr, hml, hown, hts0, hlocks, hname, hK⟩ := Cx
  have hts : ∀ w ∈ gT, w.before args s = true := fun w h => hts0 w (List.mem_cons_of_mem _ h)
  obtain ⟨-, ⟨c0, ty0⟩, hq0, hc0⟩ := hH.2 a0 _ hm0
  obtain ⟨hgA, ⟨c1, ty1⟩, hq1, hc1⟩ := hH.2 a _ hm1
  dsimp only at hq0 hc0 hc1
  have hq1' := hq1
  dsimp only at hq1'
  rw [Nat.mod_eq_of_lt h100] at hq1'
  rw [ht0] at hq0
  obtain ⟨rfl, hA0, -⟩ := g_ty hK hq0 ht
  obtain ⟨rfl, hA1, hRA1⟩ := g_ty hK hq1' ht
  intro T hT X
  obtain ⟨-, k0, hk0, cm0, hkk0⟩ := hA0 n0' (fun j => va_rf (f j))
  obtain ⟨-, k1, hk1, cm1, hkk1⟩ := hA1 n1 (fun j => va_rf (g j))
  obtain ⟨vm', X', step⟩ := X.arraycopy hx hown (hts _ w1) (hts _ w2) (hts _ w3) (hts _ w4) (src := a0) (dst := a) (cs := vp_cell c0 (n0', .inr (.inr (.inr (.inr f))))) (cd := vp_cell c1 (n1, .inr (.inr (.inr (.inr g))))) (srcPos := sp) (destPos := dp) (n := n) (by rw [hT]; exact hc0) (by rw [hT]; exact hc1)
    (fun _ h => by cases h) (fun _ h => by cases h) (fun h => by cases h) (fun h => by cases h) hk0 hk1 hkk0 hkk1 rfl h1 h2 h3
    (by rw [g_nn sp h1, g_nn n h3]; show ¬ _ > ((arrV c0 n0' (fun j => va_rf (f j))).slots.size : Int); rw [arrV_size]; omega)
    (by rw [g_nn dp h2, g_nn n h3]; show ¬ _ > ((arrV c1 n1 (fun j => va_rf (g j))).slots.size : Int); rw [arrV_size]; omega)
    (fun vm₁ hal i hi => by
      have e : (vp_cell c0 (n0', .inr (.inr (.inr (.inr f))))).slots.getD (sp.toNatClampNeg + i) .null = va_rf (f (sp.toNatClampNeg + i)) := by
        show (arrV c0 n0' (fun j => va_rf (f j))).slots.getD _ _ = _
        rw [Array.getD_eq_getD_getElem?, arrV_read _ _ (by omega)]
        rfl
      rw [e]
      have hel1 := hel i hi
      cases hy : f (sp.toNatClampNeg + i) with
      | none => exact ⟨rfl, trivial⟩
      | some y =>
        rw [hy] at hel1
        obtain ⟨cellV, g1, g2, ⟨kC, hkC⟩, hasg⟩ := g_any hI hK hH hel1
        obtain ⟨kA, comp, r1, r2, r3, -⟩ := hRA1
        cases hk1.symm.trans r1
        cases hkk1.symm.trans r2
        obtain ⟨kE, hkE, -⟩ := Vm.findClass_spec r3
        obtain ⟨kC', hkC', -⟩ := hal.2.2 _ _ hkC
        obtain ⟨kE', hkE', -⟩ := hal.2.2 _ _ hkE
        refine ⟨rfl, cellV, (show T.heap[y]? = some cellV by rw [hT]; exact g1), (fun q h => by rw [h] at g2; cases g2), ⟨kC', hkC'⟩, ?_, ?_⟩
        · exact ⟨kE', hkE'⟩
        · show vm₁.assignable _ _ = true
          rw [hal.assignable]
          exact hasg _ r3)
    (g := F0 m pc ls ((.inl n :: .inl dp :: .inr (.inr (some a)) :: .inl sp :: .inr (.inr (some a0)) :: st : List gV).map gv)) rfl (by rw [hml]; exact hl.1) (rest := st.map gv) rfl (by rw [hb]; exact hdg) hf (by show 2 * 0 + _ + _ ≤ _; rw [g_sum]; show _ ≤ yW Y; omega)
  have e1 : copied (vp_cell c0 (n0', .inr (.inr (.inr (.inr f))))) (vp_cell c1 (n1, .inr (.inr (.inr (.inr g))))) sp dp n = vp_cell c1 (n1, .inr (.inr (.inr (.inr (va_cpy f g sp.toNatClampNeg dp.toNatClampNeg n.toNatClampNeg))))) := by
    rw [vp_cell_q, vp_cell_q, vp_cell_q]
    exact va_copied (fun z => va_rf z) c0 c1 f g h4
  rw [e1] at X' step
  have hl2 : a < H.size := (Array.getElem?_eq_some_iff.mp hc1).1
  have hheap : ((T.setVm vm').setCell a (vp_cell c1 (n1, .inr (.inr (.inr (.inr (va_cpy f g sp.toNatClampNeg dp.toNatClampNeg n.toNatClampNeg))))))).heap = H.setIfInBounds a (vp_cell c1 (n1, .inr (.inr (.inr (.inr (va_cpy f g sp.toNatClampNeg dp.toNatClampNeg n.toNatClampNeg)))))) := by rw [← hT]; rfl
  have oq : ∀ q : Nat, q ≠ a → (H.setIfInBounds a (vp_cell c1 (n1, .inr (.inr (.inr (.inr (va_cpy f g sp.toNatClampNeg dp.toNatClampNeg n.toNatClampNeg)))))))[q]? = H[q]? := fun q hq => by simp [Array.getElem?_setIfInBounds, Ne.symm hq]
  obtain ⟨t, a1, b1⟩ := kk _ _ (hH.put ⟨hgA, _, hq1, (show (H.setIfInBounds a _)[a]? = some _ by simp [Array.getElem?_setIfInBounds, hl2])⟩ (by simp) oq) ⟨by simp; exact hS.1, fun q g1 g2 => by
      rw [oq q (fun e => g2 (by rw [e]; exact hgA h100))]
      exact hS.2.1 q g1 g2, fun q hq => by
      rcases List.mem_append.mp hq with h | h
      · exact hS.2.2 q h
      · obtain ⟨z, -, hz⟩ := List.mem_map.mp h
        rw [← hz]
        exact hgA h100⟩ _ hheap X'
  exact ⟨t, step t a1, b1⟩
end GX5
