/-! the memory's own functions, and the rows that use them -/
theorem g_one {D : va_G} {cl : List vw_C} {q : Nat × va_E} {H : Heap} (h : va_at D cl q H) : va_P D cl [q] H := by
  intro k x hx
  have hz : k < 1 := (List.getElem?_eq_some_iff.mp hx).1
  rw [show k = 0 by omega] at hx
  cases hx
  exact h
def gLet {α β : Type} (x : α) (f : α → Option β) : Option β := f x
theorem gLet_elim {α β : Type} {x : α} {f : α → Option β} {z : β} (h : gLet x f = some z) : ∃ y, y = x ∧ f y = some z := ⟨x, rfl, h⟩
def gb1 {α β : Type} (o : Option α) (f : α → Option β) : Option β := match o with
  | none => none
  | some x => f x
theorem gb1_elim {α β : Type} {o : Option α} {f : α → Option β} {z : β} (h : gb1 o f = some z) : ∃ x, o = some x ∧ f x = some z := by
  cases o with
  | none => cases h
  | some x => exact ⟨x, rfl, h⟩
theorem gb1_some {α β : Type} (x : α) (f : α → Option β) : gb1 (some x) f = f x := rfl
def gb2 {α β γ : Type} (o : Option (α × β)) (f : α → β → Option γ) : Option γ := match o with
  | none => none
  | some q => f q.1 q.2
theorem gb2_elim {α β γ : Type} {o : Option (α × β)} {f : α → β → Option γ} {z : γ} (h : gb2 o f = some z) : ∃ x y, o = some (x, y) ∧ f x y = some z := by
  cases o with
  | none => cases h
  | some q => exact ⟨q.1, q.2, rfl, h⟩
theorem gb2_some {α β γ : Type} (x : α) (y : β) (f : α → β → Option γ) : gb2 (some (x, y)) f = f x y := rfl
/-- a test that must hold -/
def gIf {α : Type} (c : Prop) [Decidable c] (o : Option α) : Option α := if c then o else none
theorem gIf_elim {α : Type} {c : Prop} [Decidable c] {o : Option α} {z : α} (h : gIf c o = some z) : c ∧ o = some z := by
  unfold gIf at h
  by_cases hc : c
  · rw [if_pos hc] at h; exact ⟨hc, h⟩
  · rw [if_neg hc] at h; cases h
theorem gIf_pos {α : Type} {c : Prop} [Decidable c] {o : Option α} (h : c) : gIf c o = o := if_pos h
theorem gif_t {α : Type} {c : Prop} [Decidable c] {a b : Option α} {z : α} (h : (if c then a else b) = some z) (hc : c) : a = some z := by
  rw [if_pos hc] at h
  exact h
theorem gif_f {α : Type} {c : Prop} [Decidable c] {a b : Option α} {z : α} (h : (if c then a else b) = some z) (hc : ¬ c) : b = some z := by
  rw [if_neg hc] at h
  exact h
/-- as many turns as no loop here needs -/
def gF : Nat := 1000000
/-- a receiver of a class of ours -/
def grc (ci : Nat) (r : Option Nat) (mm : gM) : Option Nat := match r with
  | none => none
  | some a => match mm.1 a with
    | some (.inr o) => if o.1 = ci then some a else none
    | _ => none
theorem grc_spec {ci : Nat} {r : Option Nat} {mm : gM} {b : Nat} (h : grc ci r mm = some b) : r = some b ∧ ∃ fs : List Value, mm.1 b = some (.inr (ci, fs)) := by
  unfold grc at h
  cases r with
  | none => cases h
  | some a =>
    dsimp only at h
    cases hm : mm.1 a with
    | none => rw [hm] at h; cases h
    | some e =>
      rw [hm] at h
      cases e with
      | inl x => cases h
      | inr o =>
        obtain ⟨c, fs⟩ := o
        dsimp only at h
        by_cases hc : c = ci
        · rw [if_pos hc] at h
          cases h
          subst hc
          exact ⟨rfl, fs, hm⟩
        · rw [if_neg hc] at h; cases h
/-- fields -/
def gfV (ci k : Nat) (r : Option Nat) (mm : gM) : Option Value := match r with
  | none => none
  | some a => match mm.1 a with
    | some (.inr o) => if o.1 = ci then o.2[k]? else none
    | _ => none
theorem gfV_spec {ci k : Nat} {r : Option Nat} {mm : gM} {v : Value} (h : gfV ci k r mm = some v) : ∃ (a : Nat) (fs : List Value), r = some a ∧ mm.1 a = some (.inr (ci, fs)) ∧ fs[k]? = some v := by
  unfold gfV at h
  cases r with
  | none => cases h
  | some a =>
    dsimp only at h
    cases hm : mm.1 a with
    | none => rw [hm] at h; cases h
    | some e =>
      rw [hm] at h
      cases e with
      | inl x => cases h
      | inr o =>
        obtain ⟨c, fs⟩ := o
        dsimp only at h
        by_cases hc : c = ci
        · rw [if_pos hc] at h
          subst hc
          exact ⟨a, fs, rfl, hm, h⟩
        · rw [if_neg hc] at h; cases h
def gfI (ci k : Nat) (r : Option Nat) (mm : gM) : Option Int32 := match gfV ci k r mm with
  | some (.int v) => some v
  | _ => none
def gfL (ci k : Nat) (r : Option Nat) (mm : gM) : Option Int64 := match gfV ci k r mm with
  | some (.long v) => some v
  | _ => none
def gfR (ci k : Nat) (r : Option Nat) (mm : gM) : Option (Option Nat) := match gfV ci k r mm with
  | some (.ref v) => some (some v)
  | some .null => some none
  | _ => none
theorem gfI_V {ci k : Nat} {r : Option Nat} {mm : gM} {v : Int32} (h : gfI ci k r mm = some v) : gfV ci k r mm = some (.int v) := by
  unfold gfI at h
  split at h
  · next hv => cases h; exact hv
  · cases h
theorem gfL_V {ci k : Nat} {r : Option Nat} {mm : gM} {v : Int64} (h : gfL ci k r mm = some v) : gfV ci k r mm = some (.long v) := by
  unfold gfL at h
  split at h
  · next hv => cases h; exact hv
  · cases h
theorem gfR_V {ci k : Nat} {r : Option Nat} {mm : gM} {v : Option Nat} (h : gfR ci k r mm = some v) : gfV ci k r mm = some (va_rf v) := by
  unfold gfR at h
  split at h
  · next hv => cases h; exact hv
  · next hv => cases h; exact hv
  · cases h
def gpV (ci k : Nat) (r : Option Nat) (v : Value) (mm : gM) : Option gM := match r with
  | none => none
  | some a => match mm.1 a with
    | some (.inr o) => if o.1 = ci ∧ k < o.2.length then some (gU mm a (.inr (ci, o.2.set k v))) else none
    | _ => none
theorem gpV_spec {ci k : Nat} {r : Option Nat} {mm mm1 : gM} {v : Value} (h : gpV ci k r v mm = some mm1) : ∃ (a : Nat) (fs : List Value), r = some a ∧ mm.1 a = some (.inr (ci, fs)) ∧ k < fs.length ∧ mm1 = gU mm a (.inr (ci, fs.set k v)) := by
  unfold gpV at h
  cases r with
  | none => cases h
  | some a =>
    dsimp only at h
    cases hm : mm.1 a with
    | none => rw [hm] at h; cases h
    | some e =>
      rw [hm] at h
      cases e with
      | inl x => cases h
      | inr o =>
        obtain ⟨c, fs⟩ := o
        dsimp only at h
        by_cases hc : c = ci ∧ k < fs.length
        · rw [if_pos hc] at h
          obtain ⟨rfl, hk⟩ := hc
          cases h
          exact ⟨a, fs, rfl, hm, hk, rfl⟩
        · rw [if_neg hc] at h; cases h
def gCls (ci : Nat) (C : String) (T : u_T) (N : Nat) : Prop := gCl[ci]? = some (C, T, N) ∧ (∀ w ∈ u_ws C T N, w ∈ gT) ∧ (∃ ty0 : Nat → FieldType, ∀ k, k < N → parseFieldDescriptor (T k).2.2.1 = some (ty0 k)) ∧ ∀ a, a < N → ∀ b, b < N → a ≠ b → (T a).2.1 ≠ (T b).2.1
def gFld (own : String) (idx ci k : Nat) (ty : FieldType) (fin : Bool) : Prop := ∃ (C : String) (T : u_T) (N : Nat) (ref : String), gCls ci C T N ∧ k < N ∧ parseFieldDescriptor (T k).2.2.1 = some ty ∧ (T k).2.2.2 = fin ∧ (fin = true → (T k).1 = own ∧ ref = own ∧ Cond.fieldLink own idx ref (T k).2.1 (T k).2.2.1 ∈ gT) ∧ (ref = (T k).1 ∨ Cond.sameField ref (T k).1 (T k).2.1 (T k).2.2.1 ∈ gT) ∧
  (Cond.fieldLink own idx ref (T k).2.1 (T k).2.2.1 ∈ gT ∨ ∃ host, (own, idx, ref, (T k).2.1, (T k).2.2.1, host) ∈ gNF)
def gGet (own : String) (idx ci k : Nat) (ty : FieldType) : Prop := ∃ (C : String) (T : u_T) (N : Nat) (ref : String), gCls ci C T N ∧ k < N ∧ parseFieldDescriptor (T k).2.2.1 = some ty ∧ (ref = (T k).1 ∨ Cond.sameField ref (T k).1 (T k).2.1 (T k).2.2.1 ∈ gT) ∧
  (Cond.fieldLink own idx ref (T k).2.1 (T k).2.2.1 ∈ gT ∨ ∃ host, (own, idx, ref, (T k).2.1, (T k).2.2.1, host) ∈ gNF)
section GX2
variable {l : Launch} {E : gD} {Y : gY} {n0 s0 : Nat} {rv : Option Value} {res mm mm1 : gM} {lv lv' : List (Nat × gV)} {st st' : List gV}
theorem x_getV (pc : Nat) {idx ci k : Nat} {ty : FieldType} {r : Option Nat} {vv : gV} (w : gGet (yO Y) idx ci k ty) (hv : gfV ci k r mm = some (gv vv)) (hdg : decode (yB Y) pc = .ok (.getfield idx, 3)) (kk : xX l E Y n0 s0 rv res (pc + 3) lv (vv :: st) mm) : xX l E Y n0 s0 rv res pc lv (.inr (.inr r) :: st) mm := by
  obtain ⟨a, fs, rfl, hm, hfs⟩ := gfV_spec hv
  obtain ⟨C, T, N, ref, ⟨hc, hin, -, -⟩, hk, -, hsm, hlk⟩ := w
  refine x_same (fun {p e s m args below meth c H locs ls cells slots Q} Cx hH hS hl _ _ kk => ?_) kk
  obtain ⟨hx, hb, hr, hml, hown, hts, hlocks, hname, hK⟩ := Cx
  have hP : va_P E.1 gCl [(a, .inr (ci, fs))] H := g_one (hH.2 a _ hm).2
  have hsame : ∀ x, s.fieldFound? (T k).1 (T k).2.1 (T k).2.2.1 = some x → s.fieldFound? ref (T k).2.1 (T k).2.2.1 = some x := by
    rcases hsm with rfl | hsm
    · exact fun _ h => h
    · exact fun x h => u_same (hts _ (List.mem_cons_of_mem _ hsm)) x h
  rcases hlk with hlk | ⟨host, hlk⟩
  · exact va_get (D := E.1) (ci := ci) (C := C) (T := T) (N := N) (v := gv vv) (ws := [(a, .inr (ci, fs))]) hx hb hts (fun w h => List.mem_cons_of_mem _ (hin w h)) hown hK.1 hP 0 rfl hc k hk (hts _ (List.mem_cons_of_mem _ hlk)) hsame hfs hdg (kk _ hl)
  · exact va_getN (D := E.1) (ci := ci) (C := C) (T := T) (N := N) (v := gv vv) (ws := [(a, .inr (ci, fs))]) hx hb hts (fun w h => List.mem_cons_of_mem _ (hin w h)) hown hK.1 hP 0 rfl hc k hk (va_Nw.use rfl (hK.2.2.1 _ hlk)) hsame hfs hdg (kk _ hl)
theorem x_getI (pc : Nat) {idx ci k : Nat} {ty : FieldType} {r : Option Nat} {v : Int32} (hv : gfI ci k r mm = some v) (w : gGet (yO Y) idx ci k ty) (hdg : decode (yB Y) pc = .ok (.getfield idx, 3)) (kk : xX l E Y n0 s0 rv res (pc + 3) lv (.inl v :: st) mm) : xX l E Y n0 s0 rv res pc lv (.inr (.inr r) :: st) mm := x_getV pc w (vv := .inl v) (gfI_V hv) hdg kk
theorem x_getL (pc : Nat) {idx ci k : Nat} {ty : FieldType} {r : Option Nat} {v : Int64} (hv : gfL ci k r mm = some v) (w : gGet (yO Y) idx ci k ty) (hdg : decode (yB Y) pc = .ok (.getfield idx, 3)) (kk : xX l E Y n0 s0 rv res (pc + 3) lv (.inr (.inl v) :: st) mm) : xX l E Y n0 s0 rv res pc lv (.inr (.inr r) :: st) mm := x_getV pc w (vv := .inr (.inl v)) (gfL_V hv) hdg kk
theorem x_getR (pc : Nat) {idx ci k : Nat} {ty : FieldType} {r v : Option Nat} (hv : gfR ci k r mm = some v) (w : gGet (yO Y) idx ci k ty) (hdg : decode (yB Y) pc = .ok (.getfield idx, 3)) (kk : xX l E Y n0 s0 rv res (pc + 3) lv (.inr (.inr v) :: st) mm) : xX l E Y n0 s0 rv res pc lv (.inr (.inr r) :: st) mm := x_getV pc w (vv := .inr (.inr v)) (gfR_V hv) hdg kk
theorem x_putV (pc : Nat) {idx ci k : Nat} {ty : FieldType} {r : Option Nat} {vv : gV} (w : gFld (yO Y) idx ci k ty false) (hn : narrow ty (gv vv) = gv vv) (hfit : fits ty (gv vv) = true) (hv : gpV ci k r (gv vv) mm = some mm1) (hdg : decode (yB Y) pc = .ok (.putfield idx, 3)) (kk : xX l E Y n0 s0 rv res (pc + 3) lv st mm1) : xX l E Y n0 s0 rv res pc lv (vv :: .inr (.inr r) :: st) mm := by
  obtain ⟨a, fs, rfl, hm, hkl, rfl⟩ := gpV_spec hv
  obtain ⟨C, T, N, ref, ⟨hc, hin, ⟨ty0, hty⟩, hnm⟩, hk, hd, hfin, -, hsm, hlk⟩ := w
  refine x_write (mm1 := gU mm a _) rfl (fun {p e s m args below meth c H locs ls cells slots Q} Cx hH hS hl _ _ kk => ?_) kk
  obtain ⟨hx, hb, hr, hml, hown, hts0, hlocks, hname, hK⟩ := Cx
  have hts : ∀ w ∈ gT, w.before args s = true := fun w h => hts0 w (List.mem_cons_of_mem _ h)
  have hsame : ∀ x, s.fieldFound? (T k).1 (T k).2.1 (T k).2.2.1 = some x → s.fieldFound? ref (T k).2.1 (T k).2.2.1 = some x := by
    rcases hsm with rfl | hsm
    · exact fun _ h => h
    · exact fun x h => u_same (hts _ hsm) x h
  have hap := va_apart (own := yO Y) hts hin ty0 hty hnm hK.1 hc
  obtain ⟨hgA, r0, h1, cell, q1, q2, q3, q4⟩ := hH.2 a _ hm
  have hr0 : r0 = (C, T, N) := Option.some.inj (h1.symm.trans hc)
  subst hr0
  obtain ⟨hSl, hfc, kC, hkC, hkind⟩ := hK.1.1 ci _ hc
  obtain ⟨cf, kf, fi, f, hi, hsl⟩ := hSl k hk
  have hlay := hts _ (hin _ (u_in_lay hk))
  unfold u_lay at hlay
  rw [if_neg (by rw [hfin]; decide)] at hlay
  have hst := (u_facts hfc hkC (u_lays hts hin hk) hi).1
  have h6 := u_store hfc hkC hkind hlay hi hd hn hfit
  rcases hlk with hlk | ⟨host, hlk⟩
  · refine W.putK hx hb (f := f) ⟨hown, hts _ hlk, ⟨_, _, _, hsame _ hi⟩, hst⟩ (by rw [q2]; exact h6) q1 q3 (by rw [hsl]; exact k2_hasslot (q4 k hk)) rfl rfl hdg fun H' e1 e2 e3 => ?_
    rw [hsl] at e1 ⊢
    exact kk H' _ (hH.put ⟨hgA, _, hc, t_OB.to (V := updV (vp_V fs) k (gv vv)) ⟨_, e1, q2, q3, t_set q4 hap hk (gv vv)⟩ (fun j _ => vp_updV_set hkl (gv vv) j)⟩ e2 e3) (hS.put e2 e3 hgA)
  · refine va_WputK hx hb (f := f) hown (va_Nw.use rfl (hK.2.2.1 _ hlk)) (hsame _ hi) hst (by rw [q2]; exact h6) q1 q3 (by rw [hsl]; exact k2_hasslot (q4 k hk)) rfl rfl hdg fun H' e1 e2 e3 => ?_
    rw [hsl] at e1 ⊢
    exact kk H' _ (hH.put ⟨hgA, _, hc, t_OB.to (V := updV (vp_V fs) k (gv vv)) ⟨_, e1, q2, q3, t_set q4 hap hk (gv vv)⟩ (fun j _ => vp_updV_set hkl (gv vv) j)⟩ e2 e3) (hS.put e2 e3 hgA)
theorem x_putF (pc : Nat) {idx ci k : Nat} {ty : FieldType} {r : Option Nat} {vv : gV} (w : gFld (yO Y) idx ci k ty true) (hinit : yN Y = "<init>") (hn : narrow ty (gv vv) = gv vv) (hfit : fits ty (gv vv) = true) (hv : gpV ci k r (gv vv) mm = some mm1) (hdg : decode (yB Y) pc = .ok (.putfield idx, 3)) (kk : xX l E Y n0 s0 rv res (pc + 3) lv st mm1) : xX l E Y n0 s0 rv res pc lv (vv :: .inr (.inr r) :: st) mm := by
  obtain ⟨a, fs, rfl, hm, hkl, rfl⟩ := gpV_spec hv
  obtain ⟨C, T, N, ref, ⟨hc, hin, ⟨ty0, hty⟩, hnm⟩, hk, hd, hfin, hf2, -, -⟩ := w
  obtain ⟨hdecl, href, hlk⟩ := hf2 rfl
  refine x_write (mm1 := gU mm a _) rfl (fun {p e s m args below meth c H locs ls cells slots Q} Cx hH hS hl _ _ kk => ?_) kk
  obtain ⟨hx, hb, hr, hml, hown, hts0, hlocks, hname, hK⟩ := Cx
  have hts : ∀ w ∈ gT, w.before args s = true := fun w h => hts0 w (List.mem_cons_of_mem _ h)
  have hap := va_apart (own := yO Y) hts hin ty0 hty hnm hK.1 hc
  obtain ⟨hgA, r0, h1, cell, q1, q2, q3, q4⟩ := hH.2 a _ hm
  have hr0 : r0 = (C, T, N) := Option.some.inj (h1.symm.trans hc)
  subst hr0
  obtain ⟨hSl, hfc, kC, hkC, hkind⟩ := hK.1.1 ci _ hc
  obtain ⟨cf, kf, fi, f, hi, hsl⟩ := hSl k hk
  have hlay := hts _ (hin _ (u_in_lay hk))
  unfold u_lay at hlay
  rw [if_pos hfin] at hlay
  have hst := (u_facts hfc hkC (u_lays hts hin hk) hi).1
  have hcf : m.cls = cf := by
    obtain ⟨_, _, c', _, _, _, -, -, hf', -, -, -, hown2, -⟩ := Cond.laysFinal_spec hlay
    have e1 : c' = cf := by have := hi.symm.trans hf'; simp at this; exact this.1.symm
    rw [hdecl] at hown2
    rw [← e1]; exact Option.some.inj (hown.symm.trans hown2)
  have h6 := u_fits hfc hkC hkind (Or.inr hlay) hi hd hn hfit
  have hi2 : s.fieldFound? ref (T k).2.1 (T k).2.2.1 = some (cf, kf, fi, f) := by rw [href, ← hdecl]; exact hi
  refine W.putFinK hx hb hown (hts _ hlk) hi2 hst hcf (hname hinit) (by rw [q2]; exact h6) q1 q3 (by rw [hsl]; exact k2_hasslot (q4 k hk)) rfl rfl hdg fun H' e1 e2 e3 => ?_
  rw [hsl] at e1 ⊢
  exact kk H' _ (hH.put ⟨hgA, _, hc, t_OB.to (V := updV (vp_V fs) k (gv vv)) ⟨_, e1, q2, q3, t_set q4 hap hk (gv vv)⟩ (fun j _ => vp_updV_set hkl (gv vv) j)⟩ e2 e3) (hS.put e2 e3 hgA)
end GX2
theorem g_nI (x : Int32) : narrow .int (gv (.inl x)) = gv (.inl x) := rfl
theorem g_nL (x : Int64) : narrow .long (gv (.inr (.inl x))) = gv (.inr (.inl x)) := rfl
theorem g_nR (C : String) (r : Option Nat) : narrow (.object C) (gv (.inr (.inr r))) = gv (.inr (.inr r)) := by cases r <;> rfl
theorem g_nA (t : FieldType) (r : Option Nat) : narrow (.array t) (gv (.inr (.inr r))) = gv (.inr (.inr r)) := by cases r <;> rfl
theorem g_fR (C : String) (r : Option Nat) : fits (.object C) (gv (.inr (.inr r))) = true := by cases r <;> rfl
theorem g_fA (t : FieldType) (r : Option Nat) : fits (.array t) (gv (.inr (.inr r))) = true := by cases r <;> rfl
theorem g_nZ {x : Int32} (h : x = 0 ∨ x = 1) : narrow .boolean (gv (.inl x)) = gv (.inl x) := g_z h
theorem g_fZ {x : Int32} (h : x = 0 ∨ x = 1) : fits .boolean (gv (.inl x)) = true := by
  rcases h with rfl | rfl <;> decide +kernel
/-! arrays -/
def gar (r : Option Nat) (mm : gM) : Option (Nat × vp_A) := match r with
  | none => none
  | some a => match mm.1 a with
    | some (.inl x) => some x
    | _ => none
theorem gar_spec {r : Option Nat} {mm : gM} {x : Nat × vp_A} (h : gar r mm = some x) : ∃ a : Nat, r = some a ∧ mm.1 a = some (.inl x) := by
  unfold gar at h
  cases r with
  | none => cases h
  | some a =>
    dsimp only at h
    cases hm : mm.1 a with
    | none => rw [hm] at h; cases h
    | some e =>
      rw [hm] at h
      cases e with
      | inl y => cases h; exact ⟨a, rfl, hm⟩
      | inr o => cases h
/-- a length; the empty array that lists begin with lies outside the memory -/
def glen (r : Option Nat) (mm : gM) : Option Int32 := match gar r mm with
  | none => if r = some (mm.2.2.2.1 0) then some 0 else if r = some (mm.2.2.2.1 2) then some (Int32.ofNat mm.2.2.2.2.1) else none
  | some x => some (Int32.ofNat x.2.1)
def gaI (t : Nat) (r : Option Nat) (i : Int32) (mm : gM) : Option Int32 := match gar r mm with
  | some (t', n, .inl f) => if t' % 100 = t ∧ ¬ (i < 0 ∨ n ≤ i.toNatClampNeg) then some (f i.toNatClampNeg) else none
  | _ => if t = 0 ∧ r = some (mm.2.2.2.1 2) ∧ ¬ (i < 0 ∨ mm.2.2.2.2.1 ≤ i.toNatClampNeg) then some (mm.2.2.2.2.2 i.toNatClampNeg) else none
theorem gaI_spec {t : Nat} {r : Option Nat} {i v : Int32} {mm : gM} (h : gaI t r i mm = some v) : (∃ (a t' n : Nat) (f : Nat → Int32), r = some a ∧ mm.1 a = some (.inl (t', n, .inl f)) ∧ t' % 100 = t ∧ vp_in i n ∧ v = f i.toNatClampNeg) ∨ (t = 0 ∧ r = some (mm.2.2.2.1 2) ∧ vp_in i mm.2.2.2.2.1 ∧ v = mm.2.2.2.2.2 i.toNatClampNeg) := by
  unfold gaI at h
  split at h
  · next t' n f hg =>
    obtain ⟨a, rfl, hm⟩ := gar_spec hg
    by_cases hc : t' % 100 = t ∧ ¬ (i < 0 ∨ n ≤ i.toNatClampNeg)
    · rw [if_pos hc] at h; cases h
      exact Or.inl ⟨a, t', n, f, rfl, hm, hc.1, hc.2, rfl⟩
    · rw [if_neg hc] at h; cases h
  · by_cases hc : t = 0 ∧ r = some (mm.2.2.2.1 2) ∧ ¬ (i < 0 ∨ mm.2.2.2.2.1 ≤ i.toNatClampNeg)
    · rw [if_pos hc] at h; cases h
      exact Or.inr ⟨hc.1, hc.2.1, hc.2.2, rfl⟩
    · rw [if_neg hc] at h; cases h
def gaL (t : Nat) (r : Option Nat) (i : Int32) (mm : gM) : Option Int64 := match gar r mm with
  | some (t', n, .inr (.inl f)) => if t' % 100 = t ∧ ¬ (i < 0 ∨ n ≤ i.toNatClampNeg) then some (f i.toNatClampNeg) else none
  | _ => none
theorem gaL_spec {t : Nat} {r : Option Nat} {i : Int32} {v : Int64} {mm : gM} (h : gaL t r i mm = some v) : ∃ (a t' n : Nat) (f : Nat → Int64), r = some a ∧ mm.1 a = some (.inl (t', n, .inr (.inl f))) ∧ t' % 100 = t ∧ vp_in i n ∧ v = f i.toNatClampNeg := by
  unfold gaL at h
  split at h
  · next t' n f hg =>
    obtain ⟨a, rfl, hm⟩ := gar_spec hg
    by_cases hc : t' % 100 = t ∧ ¬ (i < 0 ∨ n ≤ i.toNatClampNeg)
    · rw [if_pos hc] at h; cases h
      exact ⟨a, t', n, f, rfl, hm, hc.1, hc.2, rfl⟩
    · rw [if_neg hc] at h; cases h
  · cases h
def gaR (t : Nat) (r : Option Nat) (i : Int32) (mm : gM) : Option (Option Nat) := match gar r mm with
  | some (t', n, .inr (.inr (.inr (.inr f)))) => if t' % 100 = t ∧ ¬ (i < 0 ∨ n ≤ i.toNatClampNeg) then some (f i.toNatClampNeg) else none
  | _ => none
theorem gaR_spec {t : Nat} {r : Option Nat} {i : Int32} {v : Option Nat} {mm : gM} (h : gaR t r i mm = some v) : ∃ (a t' n : Nat) (f : Nat → Option Nat), r = some a ∧ mm.1 a = some (.inl (t', n, .inr (.inr (.inr (.inr f))))) ∧ t' % 100 = t ∧ vp_in i n ∧ v = f i.toNatClampNeg := by
  unfold gaR at h
  split at h
  · next t' n f hg =>
    obtain ⟨a, rfl, hm⟩ := gar_spec hg
    by_cases hc : t' % 100 = t ∧ ¬ (i < 0 ∨ n ≤ i.toNatClampNeg)
    · rw [if_pos hc] at h; cases h
      exact ⟨a, t', n, f, rfl, hm, hc.1, hc.2, rfl⟩
    · rw [if_neg hc] at h; cases h
  · cases h
def gsI (t : Nat) (r : Option Nat) (i x : Int32) (mm : gM) : Option gM := match gar r mm with
  | some (t', n, .inl f) => if t' = t ∧ ¬ (i < 0 ∨ n ≤ i.toNatClampNeg) then some (gU mm (r.getD 0) (.inl (t, n, .inl (va_up f i.toNatClampNeg x)))) else none
  | _ => none
theorem gsI_spec {t : Nat} {r : Option Nat} {i x : Int32} {mm mm1 : gM} (h : gsI t r i x mm = some mm1) : ∃ (a n : Nat) (f : Nat → Int32), r = some a ∧ mm.1 a = some (.inl (t, n, .inl f)) ∧ vp_in i n ∧ mm1 = gU mm a (.inl (t, n, .inl (va_up f i.toNatClampNeg x))) := by
  unfold gsI at h
  split at h
  · next t' n f hg =>
    obtain ⟨a, rfl, hm⟩ := gar_spec hg
    by_cases hc : t' = t ∧ ¬ (i < 0 ∨ n ≤ i.toNatClampNeg)
    · rw [if_pos hc] at h; cases h
      obtain ⟨rfl, h2⟩ := hc
      exact ⟨a, n, f, rfl, hm, h2, rfl⟩
    · rw [if_neg hc] at h; cases h
  · cases h
def gsL (t : Nat) (r : Option Nat) (i : Int32) (x : Int64) (mm : gM) : Option gM := match gar r mm with
  | some (t', n, .inr (.inl f)) => if t' = t ∧ ¬ (i < 0 ∨ n ≤ i.toNatClampNeg) then some (gU mm (r.getD 0) (.inl (t, n, .inr (.inl (va_up f i.toNatClampNeg x))))) else none
  | _ => none
theorem gsL_spec {t : Nat} {r : Option Nat} {i : Int32} {x : Int64} {mm mm1 : gM} (h : gsL t r i x mm = some mm1) : ∃ (a n : Nat) (f : Nat → Int64), r = some a ∧ mm.1 a = some (.inl (t, n, .inr (.inl f))) ∧ vp_in i n ∧ mm1 = gU mm a (.inl (t, n, .inr (.inl (va_up f i.toNatClampNeg x)))) := by
  unfold gsL at h
  split at h
  · next t' n f hg =>
    obtain ⟨a, rfl, hm⟩ := gar_spec hg
    by_cases hc : t' = t ∧ ¬ (i < 0 ∨ n ≤ i.toNatClampNeg)
    · rw [if_pos hc] at h; cases h
      obtain ⟨rfl, h2⟩ := hc
      exact ⟨a, n, f, rfl, hm, h2, rfl⟩
    · rw [if_neg hc] at h; cases h
  · cases h
/-- what is stored into an array of references: nothing, or an object of one of these classes -/
def gok (cs : List Nat) (v : Option Nat) (mm : gM) : Bool := match v with
  | none => true
  | some b => match mm.1 b with
    | some (.inr o) => cs.contains o.1
    | _ => false
theorem gok_spec {cs : List Nat} {b : Nat} {mm : gM} (h : gok cs (some b) mm = true) : ∃ (ci : Nat) (fs : List Value), mm.1 b = some (.inr (ci, fs)) ∧ ci ∈ cs := by
  unfold gok at h
  dsimp only at h
  cases hm : mm.1 b with
  | none => rw [hm] at h; cases h
  | some e =>
    rw [hm] at h
    cases e with
    | inl x => cases h
    | inr o => exact ⟨o.1, o.2, rfl, by simpa using h⟩
def gsR (t : Nat) (cs : List Nat) (r : Option Nat) (i : Int32) (v : Option Nat) (mm : gM) : Option gM := match gar r mm with
  | some (t', n, .inr (.inr (.inr (.inr f)))) => if t' = t ∧ ¬ (i < 0 ∨ n ≤ i.toNatClampNeg) ∧ gok cs v mm = true then some (gU mm (r.getD 0) (.inl (t, n, .inr (.inr (.inr (.inr (va_up f i.toNatClampNeg v))))))) else none
  | _ => none
theorem gsR_spec {t : Nat} {cs : List Nat} {r : Option Nat} {i : Int32} {v : Option Nat} {mm mm1 : gM} (h : gsR t cs r i v mm = some mm1) : ∃ (a n : Nat) (f : Nat → Option Nat), r = some a ∧ mm.1 a = some (.inl (t, n, .inr (.inr (.inr (.inr f))))) ∧ vp_in i n ∧ gok cs v mm = true ∧ mm1 = gU mm a (.inl (t, n, .inr (.inr (.inr (.inr (va_up f i.toNatClampNeg v)))))) := by
  unfold gsR at h
  split at h
  · next t' n f hg =>
    obtain ⟨a, rfl, hm⟩ := gar_spec hg
    by_cases hc : t' = t ∧ ¬ (i < 0 ∨ n ≤ i.toNatClampNeg) ∧ gok cs v mm = true
    · rw [if_pos hc] at h; cases h
      obtain ⟨rfl, h2, h3⟩ := hc
      exact ⟨a, n, f, rfl, hm, h2, h3, rfl⟩
    · rw [if_neg hc] at h; cases h
  · cases h
theorem g_ty {E : gD} {s : State} (hK : gK E s) {t : Nat} {q : ClassId × FieldType} {ty : FieldType} (hq : E.2.1[t]? = some q) (ht : gTys[t]? = some ty) : q.2 = ty ∧ ArrOfT s q.1 ty ∧ va_RA s q.1 ty := by
  have h1 : (E.2.1.map Prod.snd)[t]? = some q.2 := by rw [List.getElem?_map, hq]; rfl
  rw [hK.2.1, ht] at h1
  have e := Option.some.inj h1
  have h2 := hK.1.2 t q hq
  rw [← e] at h2
  exact ⟨e.symm, h2⟩
theorem g_upV {α : Type} (mk : α → Value) (f : Nat → α) (k : Nat) (x : α) : updV (fun j => mk (f j)) k (mk x) = fun j => mk (va_up f k x j) := by
  funext q
  by_cases hq : q = k
  · subst hq
    simp [updV, va_up]
  · simp [updV, va_up, hq]
section GX3
variable {l : Launch} {E : gD} {Y : gY} {n0 s0 : Nat} {rv : Option Value} {res mm mm1 : gM} {lv lv' : List (Nat × gV)} {st st' : List gV}
theorem x_alen (pc : Nat) {r : Option Nat} {v : Int32} (hv : glen r mm = some v) (hdg : decode (yB Y) pc = .ok (.arraylength, 1)) (kk : xX l E Y n0 s0 rv res (pc + 1) lv (.inl v :: st) mm) : xX l E Y n0 s0 rv res pc lv (.inr (.inr r) :: st) mm := by
  unfold glen at hv
  split at hv
  · by_cases hc : r = some (mm.2.2.2.1 0)
    · rw [if_pos hc] at hv
      cases hv
      subst hc
      refine x_same (fun {p e s m args below meth c H locs ls cells slots Q} Cx hH hS hl _ _ kk => ?_) kk
      obtain ⟨hx, hb, hr, hml, hown, hts, hlocks, hname, hK⟩ := Cx
      have hT := hK.2.2.2.2.2.2.2.1
      rw [← hH.1.2.2] at hT
      exact va_tlen hx hb hT hS rfl hdg (kk _ hl)
    · rw [if_neg hc] at hv
      by_cases hc2 : r = some (mm.2.2.2.1 2)
      · rw [if_pos hc2] at hv
        cases hv
        subst hc2
        refine x_same (fun {p e s m args below meth c H locs ls cells slots Q} Cx hH hS hl _ _ kk => ?_) kk
        obtain ⟨hx, hb, hr, hml, hown, hts, hlocks, hname, hK⟩ := Cx
        obtain ⟨hX, hlt⟩ := hK.2.2.2.2.2.2.2.2.2.2
        rw [← hH.1.2.2] at hX hlt
        exact va_slen hx hb hX (Array.getElem?_eq_some_iff.mp hX.choose_spec.1).1 (Nat.not_le.mpr hlt) hS hdg (kk _ hl)
      · rw [if_neg hc2] at hv
        cases hv
  next x hg =>
  cases hv
  obtain ⟨a, rfl, hm⟩ := gar_spec hg
  refine x_same (fun {p e s m args below meth c H locs ls cells slots Q} Cx hH hS hl _ _ kk => ?_) kk
  obtain ⟨hx, hb, hr, hml, hown, hts, hlocks, hname, hK⟩ := Cx
  obtain ⟨h1, q, hq, hc⟩ := hH.2 a _ hm
  exact va_alen (D := E.1) (cl := gCl) (ws := [(a, .inl (q.1, x.2))]) (tys := E.2.1) hx hb hK.1 (g_one hc) 0 (x.1 % 100) rfl (ty := q.2) hq rfl hdg (kk _ hl)
theorem x_iald (pc : Nat) {t : Nat} {r : Option Nat} {i v : Int32} (ht : gTys[t]? = some .int) (hv : gaI t r i mm = some v) (hdg : decode (yB Y) pc = .ok (.iaload, 1)) (kk : xX l E Y n0 s0 rv res (pc + 1) lv (.inl v :: st) mm) : xX l E Y n0 s0 rv res pc lv (.inl i :: .inr (.inr r) :: st) mm := by
  rcases gaI_spec hv with ⟨a, t', n, f, rfl, hm, rfl, hin, rfl⟩ | ⟨-, rfl, hin, rfl⟩
  case inr =>
    refine x_same (fun {p e s m args below meth c H locs ls cells slots Q} Cx hH hS hl _ _ kk => ?_) kk
    obtain ⟨hx, hb, hr, hml, hown, hts, hlocks, hname, hK⟩ := Cx
    obtain ⟨hX, hlt⟩ := hK.2.2.2.2.2.2.2.2.2.2
    rw [← hH.1.2.2] at hX hlt
    exact va_sld hx hb hX (Array.getElem?_eq_some_iff.mp hX.choose_spec.1).1 (Nat.not_le.mpr hlt) hS hin hdg (kk _ hl)
  refine x_same (fun {p e s m args below meth c H locs ls cells slots Q} Cx hH hS hl _ _ kk => ?_) kk
  obtain ⟨hx, hb, hr, hml, hown, hts, hlocks, hname, hK⟩ := Cx
  obtain ⟨h1, ⟨cA, ty⟩, hq, hc⟩ := hH.2 a _ hm
  obtain ⟨rfl, -, -⟩ := g_ty hK hq ht
  exact va_iald (D := E.1) (cl := gCl) (ws := [(a, .inl (cA, n, .inl f))]) (tys := E.2.1) hx hb hK.1 (g_one hc) 0 (t' % 100) rfl hq hin hdg (kk _ hl)
theorem x_zald (pc : Nat) {t : Nat} {r : Option Nat} {i v : Int32} (ht : gTys[t]? = some .boolean) (hv : gaI t r i mm = some v) (hdg : decode (yB Y) pc = .ok (.baload, 1)) (kk : xX l E Y n0 s0 rv res (pc + 1) lv (.inl v :: st) mm) : xX l E Y n0 s0 rv res pc lv (.inl i :: .inr (.inr r) :: st) mm := by
  have h0t : ¬ t = 0 := by
    intro h0
    subst h0
    rw [show gTys[0]? = some .int from rfl] at ht
    cases ht
  rcases gaI_spec hv with ⟨a, t', n, f, rfl, hm, rfl, hin, rfl⟩ | ⟨h0, -, -, -⟩
  case inr => exact absurd h0 h0t
  refine x_same (fun {p e s m args below meth c H locs ls cells slots Q} Cx hH hS hl _ _ kk => ?_) kk
  obtain ⟨hx, hb, hr, hml, hown, hts, hlocks, hname, hK⟩ := Cx
  obtain ⟨h1, ⟨cA, ty⟩, hq, hc⟩ := hH.2 a _ hm
  obtain ⟨rfl, -, -⟩ := g_ty hK hq ht
  exact va_zald (D := E.1) (cl := gCl) (ws := [(a, .inl (cA, n, .inl f))]) (tys := E.2.1) hx hb hK.1 (g_one hc) 0 (t' % 100) rfl hq hin hdg (kk _ hl)
theorem x_lald (pc : Nat) {t : Nat} {r : Option Nat} {i : Int32} {v : Int64} (ht : gTys[t]? = some .long) (hv : gaL t r i mm = some v) (hdg : decode (yB Y) pc = .ok (.laload, 1)) (kk : xX l E Y n0 s0 rv res (pc + 1) lv (.inr (.inl v) :: st) mm) : xX l E Y n0 s0 rv res pc lv (.inl i :: .inr (.inr r) :: st) mm := by
  obtain ⟨a, t', n, f, rfl, hm, rfl, hin, rfl⟩ := gaL_spec hv
  refine x_same (fun {p e s m args below meth c H locs ls cells slots Q} Cx hH hS hl _ _ kk => ?_) kk
  obtain ⟨hx, hb, hr, hml, hown, hts, hlocks, hname, hK⟩ := Cx
  obtain ⟨h1, ⟨cA, ty⟩, hq, hc⟩ := hH.2 a _ hm
  obtain ⟨rfl, -, -⟩ := g_ty hK hq ht
  exact va_lald (D := E.1) (cl := gCl) (ws := [(a, .inl (cA, n, .inr (.inl f)))]) (tys := E.2.1) hx hb hK.1 (g_one hc) 0 (t' % 100) rfl hq hin hdg (kk _ hl)
theorem x_aald (pc : Nat) {t : Nat} {C : String} {r v : Option Nat} {i : Int32} (ht : gTys[t]? = some (.object C)) (hv : gaR t r i mm = some v) (hdg : decode (yB Y) pc = .ok (.aaload, 1)) (kk : xX l E Y n0 s0 rv res (pc + 1) lv (.inr (.inr v) :: st) mm) : xX l E Y n0 s0 rv res pc lv (.inl i :: .inr (.inr r) :: st) mm := by
  obtain ⟨a, t', n, f, rfl, hm, rfl, hin, rfl⟩ := gaR_spec hv
  refine x_same (fun {p e s m args below meth c H locs ls cells slots Q} Cx hH hS hl _ _ kk => ?_) kk
  obtain ⟨hx, hb, hr, hml, hown, hts, hlocks, hname, hK⟩ := Cx
  obtain ⟨h1, ⟨cA, ty⟩, hq, hc⟩ := hH.2 a _ hm
  obtain ⟨rfl, -, -⟩ := g_ty hK hq ht
  exact va_aldq (D := E.1) (cl := gCl) (C := C) (ws := [(a, .inl (cA, n, .inr (.inr (.inr (.inr f)))))]) (tys := E.2.1) hx hb hK.1 (g_one hc) 0 (t' % 100) rfl hq hin hdg (kk _ hl)
theorem x_iast (pc : Nat) {t : Nat} {r : Option Nat} {i x : Int32} (h100 : t < 100) (ht : gTys[t]? = some .int) (hv : gsI t r i x mm = some mm1) (hdg : decode (yB Y) pc = .ok (.iastore, 1)) (kk : xX l E Y n0 s0 rv res (pc + 1) lv st mm1) : xX l E Y n0 s0 rv res pc lv (.inl x :: .inl i :: .inr (.inr r) :: st) mm := by
  obtain ⟨a, n, f, rfl, hm, hin, rfl⟩ := gsI_spec hv
  refine x_write (mm1 := gU mm a _) rfl (fun {p e s m args below meth c H locs ls cells slots Q} Cx hH hS hl _ _ kk => ?_) kk
  obtain ⟨hx, hb, hr, hml, hown, hts, hlocks, hname, hK⟩ := Cx
  obtain ⟨h1, ⟨cA, ty⟩, hq, hc⟩ := hH.2 a _ hm
  have hq' := hq
  dsimp only at hq'
  rw [Nat.mod_eq_of_lt h100] at hq'
  obtain ⟨rfl, hAr, -⟩ := g_ty hK hq' ht
  refine W.iast hx hb hc (hAr n (fun j => .int (f j))) (fun h => by cases h) (by show ¬ (i < 0 ∨ (arrV _ _ _).slots.size ≤ _); rw [arrV_size]; exact hin) rfl rfl hdg fun H1 e1 z oq => ?_
  refine kk H1 _ (hH.put ⟨h1, _, hq, ?_⟩ z oq) (hS.put z oq (h1 h100))
  rw [e1]
  show some ((arrV cA n (fun j => .int (f j))).setSlot _ _) = some (arrV cA n (fun j => .int (va_up f _ _ j)))
  rw [arrV_store, g_upV (fun z => Value.int z)]
theorem x_zast (pc : Nat) {t : Nat} {r : Option Nat} {i x : Int32} (hx01 : x = 0 ∨ x = 1) (h100 : t < 100) (ht : gTys[t]? = some .boolean) (hv : gsI t r i x mm = some mm1) (hdg : decode (yB Y) pc = .ok (.bastore, 1)) (kk : xX l E Y n0 s0 rv res (pc + 1) lv st mm1) : xX l E Y n0 s0 rv res pc lv (.inl x :: .inl i :: .inr (.inr r) :: st) mm := by
  obtain ⟨a, n, f, rfl, hm, hin, rfl⟩ := gsI_spec hv
  refine x_write (mm1 := gU mm a _) rfl (fun {p e s m args below meth c H locs ls cells slots Q} Cx hH hS hl _ _ kk => ?_) kk
  obtain ⟨hx, hb, hr, hml, hown, hts, hlocks, hname, hK⟩ := Cx
  obtain ⟨h1, ⟨cA, ty⟩, hq, hc⟩ := hH.2 a _ hm
  have hq' := hq
  dsimp only at hq'
  rw [Nat.mod_eq_of_lt h100] at hq'
  obtain ⟨rfl, hAr, -⟩ := g_ty hK hq' ht
  refine W.zast hx hb hc (hAr n (fun j => .int (f j))) (fun h => by cases h) (by show ¬ (i < 0 ∨ (arrV _ _ _).slots.size ≤ _); rw [arrV_size]; exact hin) rfl rfl hdg fun H1 e1 z oq => ?_
  refine kk H1 _ (hH.put ⟨h1, _, hq, ?_⟩ z oq) (hS.put z oq (h1 h100))
  rw [e1, g_z hx01]
  show some ((arrV cA n (fun j => .int (f j))).setSlot _ _) = some (arrV cA n (fun j => .int (va_up f _ _ j)))
  rw [arrV_store, g_upV (fun z => Value.int z)]
theorem x_last (pc : Nat) {t : Nat} {r : Option Nat} {i : Int32} {x : Int64} (h100 : t < 100) (ht : gTys[t]? = some .long) (hv : gsL t r i x mm = some mm1) (hdg : decode (yB Y) pc = .ok (.lastore, 1)) (kk : xX l E Y n0 s0 rv res (pc + 1) lv st mm1) : xX l E Y n0 s0 rv res pc lv (.inr (.inl x) :: .inl i :: .inr (.inr r) :: st) mm := by
  obtain ⟨a, n, f, rfl, hm, hin, rfl⟩ := gsL_spec hv
  refine x_write (mm1 := gU mm a _) rfl (fun {p e s m args below meth c H locs ls cells slots Q} Cx hH hS hl _ _ kk => ?_) kk
  obtain ⟨hx, hb, hr, hml, hown, hts, hlocks, hname, hK⟩ := Cx
  obtain ⟨h1, ⟨cA, ty⟩, hq, hc⟩ := hH.2 a _ hm
  have hq' := hq
  dsimp only at hq'
  rw [Nat.mod_eq_of_lt h100] at hq'
  obtain ⟨rfl, hAr, -⟩ := g_ty hK hq' ht
  refine W.last hx hb hc (hAr n (fun j => .long (f j))) (fun h => by cases h) (by show ¬ (i < 0 ∨ (arrV _ _ _).slots.size ≤ _); rw [arrV_size]; exact hin) rfl rfl hdg fun H1 e1 z oq => ?_
  refine kk H1 _ (hH.put ⟨h1, _, hq, ?_⟩ z oq) (hS.put z oq (h1 h100))
  rw [e1]
  show some ((arrV cA n (fun j => .long (f j))).setSlot _ _) = some (arrV cA n (fun j => .long (va_up f _ _ j)))
  rw [arrV_store, g_upV (fun z => Value.long z)]
/-- the classes cs may lie in an array over D -/
def gInto (cs : List Nat) (D : String) : Prop := ∀ ci ∈ cs, ∃ (C : String) (T : u_T) (N : Nat), gCl[ci]? = some (C, T, N) ∧ (C = D ∨ (C, D) ∈ gNC)
theorem g_any {s : State} {H : Heap} {cs : List Nat} {D : String} {b : Nat} (hI : gInto cs D) (hK : gK E s) (hH : gH E mm H) (h : gok cs (some b) mm = true) : va_Any D s H b := by
  obtain ⟨ci, fs, hb, hci⟩ := gok_spec h
  obtain ⟨C, T, N, hc, hcd⟩ := hI ci hci
  refine va_rAny (ws := [(b, .inr (ci, fs))]) hK.1 (g_one (hH.2 b _ hb).2) (q0 := 0) rfl hc ?_
  intro comp c0 h1 h2
  rcases hcd with rfl | hcd
  · have e : comp = c0 := Option.some.inj (h1.symm.trans h2)
    subst e
    exact va_assign (C := C) ((hK.1.1 ci _ hc).2.1.symm.trans h1 |> Option.some.inj |> fun z => z ▸ (hK.1.1 ci _ hc).2)
  · obtain ⟨c1, t1, f1, f2, f3⟩ := Cond.castable_spec (va_Nw.use (A := #[]) rfl (hK.2.2.2.2.1 _ hcd))
    cases h2.symm.trans f1
    cases h1.symm.trans f2
    exact f3
theorem x_aast (pc : Nat) {t : Nat} {C : String} {cs : List Nat} {r v : Option Nat} {i : Int32} (h100 : t < 100) (ht : gTys[t]? = some (.object C)) (hI : gInto cs C) (hv : gsR t cs r i v mm = some mm1) (hdg : decode (yB Y) pc = .ok (.aastore, 1)) (kk : xX l E Y n0 s0 rv res (pc + 1) lv st mm1) : xX l E Y n0 s0 rv res pc lv (.inr (.inr v) :: .inl i :: .inr (.inr r) :: st) mm := by
  obtain ⟨a, n, f, rfl, hm, hin, hgo, rfl⟩ := gsR_spec hv
  refine x_write (mm1 := gU mm a _) rfl (fun {p e s m args below meth c H locs ls cells slots Q} Cx hH hS hl _ _ kk => ?_) kk
  obtain ⟨hx, hb, hr, hml, hown, hts, hlocks, hname, hK⟩ := Cx
  obtain ⟨h1, ⟨cA, ty⟩, hq, hc⟩ := hH.2 a _ hm
  have hq' := hq
  dsimp only at hq'
  rw [Nat.mod_eq_of_lt h100] at hq'
  obtain ⟨rfl, hAr, hRA⟩ := g_ty hK hq' ht
  have hlt : i.toNatClampNeg < n := Nat.not_le.mp fun q => hin (Or.inr q)
  have h0 : ¬ i < 0 := fun q => hin (Or.inl q)
  cases v with
  | none =>
    refine va_WaastN (C := C) hx hb hc (hAr n (fun j => va_rf (f j))) (fun h => by cases h) (by show ¬ (i < 0 ∨ (arrV _ _ _).slots.size ≤ _); rw [arrV_size]; exact hin) rfl rfl hdg fun H1 e1 z oq => ?_
    refine kk H1 _ (hH.put ⟨h1, _, hq, ?_⟩ z oq) (hS.put z oq (h1 h100))
    rw [e1]
    show some ((arrV cA n (fun j => va_rf (f j))).setSlot _ _) = some (arrV cA n (fun j => va_rf (va_up f _ _ j)))
    rw [arrV_store, ← g_upV (fun z => va_rf z)]
    rfl
  | some b =>
    obtain ⟨cellV, g1, g3, ⟨kC, hkC⟩, hasg⟩ := g_any hI hK hH hgo
    obtain ⟨kA, comp, k1, k2, k3, -⟩ := hRA
    obtain ⟨kE, hkE, -⟩ := Vm.findClass_spec k3
    refine W.aast hx hb hc (fun q h => by cases h) (fun h => by cases h) k1 k2 rfl hkE ⟨h0, by show _ < (arrV _ _ _).slots.size; rw [arrV_size]; exact hlt⟩ g1 (fun q h => by rw [h] at g3; cases g3) hkC (hasg _ k3) rfl rfl hdg fun H1 e1 z oq => ?_
    refine kk H1 _ (hH.put ⟨h1, _, hq, ?_⟩ z oq) (hS.put z oq (h1 h100))
    rw [e1]
    show some ((arrV cA n (fun j => va_rf (f j))).setSlot _ _) = some (arrV cA n (fun j => va_rf (va_up f _ _ j)))
    rw [arrV_store, ← g_upV (fun z => va_rf z)]
    rfl
end GX3
