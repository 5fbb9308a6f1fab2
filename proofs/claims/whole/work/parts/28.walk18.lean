-- Teller_giveNumber S_number M_number AL_isEmpty Teller_lastLostFrom Blocks_lastAround
theorem d_Teller_giveNumber_0 : decode b_Teller_giveNumber 0 = .ok (.iconst 0, 1) := by decide +kernel
theorem d_Teller_giveNumber_1 : decode b_Teller_giveNumber 1 = .ok (.istore_n 1, 1) := by decide +kernel
theorem d_Teller_giveNumber_2 : decode b_Teller_giveNumber 2 = .ok (.iload_n 1, 1) := by decide +kernel
theorem d_Teller_giveNumber_3 : decode b_Teller_giveNumber 3 = .ok (.aload_n 0, 1) := by decide +kernel
theorem d_Teller_giveNumber_4 : decode b_Teller_giveNumber 4 = .ok (.getfield 21, 3) := by decide +kernel
theorem d_Teller_giveNumber_7 : decode b_Teller_giveNumber 7 = .ok (.getfield 58, 3) := by decide +kernel
theorem d_Teller_giveNumber_10 : decode b_Teller_giveNumber 10 = .ok (.if_icmp .ge 60, 3) := by decide +kernel
theorem d_Teller_giveNumber_13 : decode b_Teller_giveNumber 13 = .ok (.aload_n 0, 1) := by decide +kernel
theorem d_Teller_giveNumber_14 : decode b_Teller_giveNumber 14 = .ok (.getfield 21, 3) := by decide +kernel
theorem d_Teller_giveNumber_17 : decode b_Teller_giveNumber 17 = .ok (.getfield 61, 3) := by decide +kernel
theorem d_Teller_giveNumber_20 : decode b_Teller_giveNumber 20 = .ok (.iload_n 1, 1) := by decide +kernel
theorem d_Teller_giveNumber_21 : decode b_Teller_giveNumber 21 = .ok (.iaload, 1) := by decide +kernel
theorem d_Teller_giveNumber_22 : decode b_Teller_giveNumber 22 = .ok (.istore_n 2, 1) := by decide +kernel
theorem d_Teller_giveNumber_23 : decode b_Teller_giveNumber 23 = .ok (.iload_n 2, 1) := by decide +kernel
theorem d_Teller_giveNumber_24 : decode b_Teller_giveNumber 24 = .ok (.aload_n 0, 1) := by decide +kernel
theorem d_Teller_giveNumber_25 : decode b_Teller_giveNumber 25 = .ok (.getfield 21, 3) := by decide +kernel
theorem d_Teller_giveNumber_28 : decode b_Teller_giveNumber 28 = .ok (.getfield 65, 3) := by decide +kernel
theorem d_Teller_giveNumber_31 : decode b_Teller_giveNumber 31 = .ok (.iload_n 1, 1) := by decide +kernel
theorem d_Teller_giveNumber_32 : decode b_Teller_giveNumber 32 = .ok (.iaload, 1) := by decide +kernel
theorem d_Teller_giveNumber_33 : decode b_Teller_giveNumber 33 = .ok (.if_icmp .gt 31, 3) := by decide +kernel
theorem d_Teller_giveNumber_36 : decode b_Teller_giveNumber 36 = .ok (.aload_n 0, 1) := by decide +kernel
theorem d_Teller_giveNumber_37 : decode b_Teller_giveNumber 37 = .ok (.iload_n 2, 1) := by decide +kernel
theorem d_Teller_giveNumber_38 : decode b_Teller_giveNumber 38 = .ok (.invokevirtual 68, 3) := by decide +kernel
theorem d_Teller_giveNumber_41 : decode b_Teller_giveNumber 41 = .ok (.ifnonnull 17, 3) := by decide +kernel
theorem d_Teller_giveNumber_44 : decode b_Teller_giveNumber 44 = .ok (.aload_n 0, 1) := by decide +kernel
theorem d_Teller_giveNumber_45 : decode b_Teller_giveNumber 45 = .ok (.getfield 21, 3) := by decide +kernel
theorem d_Teller_giveNumber_48 : decode b_Teller_giveNumber 48 = .ok (.getfield 61, 3) := by decide +kernel
theorem d_Teller_giveNumber_51 : decode b_Teller_giveNumber 51 = .ok (.iload_n 1, 1) := by decide +kernel
theorem d_Teller_giveNumber_52 : decode b_Teller_giveNumber 52 = .ok (.iload_n 2, 1) := by decide +kernel
theorem d_Teller_giveNumber_53 : decode b_Teller_giveNumber 53 = .ok (.iconst 1, 1) := by decide +kernel
theorem d_Teller_giveNumber_54 : decode b_Teller_giveNumber 54 = .ok (.iadd, 1) := by decide +kernel
theorem d_Teller_giveNumber_55 : decode b_Teller_giveNumber 55 = .ok (.iastore, 1) := by decide +kernel
theorem d_Teller_giveNumber_56 : decode b_Teller_giveNumber 56 = .ok (.iload_n 2, 1) := by decide +kernel
theorem d_Teller_giveNumber_57 : decode b_Teller_giveNumber 57 = .ok (.ireturn, 1) := by decide +kernel
theorem d_Teller_giveNumber_58 : decode b_Teller_giveNumber 58 = .ok (.iinc 2 1, 3) := by decide +kernel
theorem d_Teller_giveNumber_61 : decode b_Teller_giveNumber 61 = .ok (.goto (-38), 3) := by decide +kernel
theorem d_Teller_giveNumber_64 : decode b_Teller_giveNumber 64 = .ok (.iinc 1 1, 3) := by decide +kernel
theorem d_Teller_giveNumber_67 : decode b_Teller_giveNumber 67 = .ok (.goto (-65), 3) := by decide +kernel
theorem d_Teller_giveNumber_70 : decode b_Teller_giveNumber 70 = .ok (.iconst (-1), 1) := by decide +kernel
theorem d_Teller_giveNumber_71 : decode b_Teller_giveNumber 71 = .ok (.ireturn, 1) := by decide +kernel
def L_Teller_giveNumber_23 (k44 : Option Nat → Int32 → Int32 → gM → Option (Int32 × gM)) (k64 : Option Nat → Int32 → gM → Option (Int32 × gM)) : Nat → Option Nat → Int32 → Int32 → gM → Option (Int32 × gM)
  | 0, _, _, _, _ => none
  | f + 1, p0, p1, p2, mm =>
    gb1 (gfR 1 1 p0 mm) fun v12 =>
    gb1 (gfR 2 1 v12 mm) fun v14 =>
    gb1 (gaI 0 v14 p1 mm) fun v16 =>
    if v16 < p2 then (
      k64 p0 p1 mm)
    else (
      gb1 (grc 1 p0 mm) fun b22 =>
      gb2 (F_Teller_toldWith b22 p2 mm) fun v19 mm20 =>
      if v19 = none then (
        k44 p0 p1 p2 mm20)
      else (
        gLet (p2 + 1) fun x25 =>
        L_Teller_giveNumber_23 k44 k64 f p0 p1 x25 mm20))
set_option maxHeartbeats 4000000 in
set_option maxRecDepth 100000 in
theorem wL_Teller_giveNumber_23 {l : Launch} {E : gD} {n0 s0 : Nat} {r : Int32} {res : gM} {k44 : Option Nat → Int32 → Int32 → gM → Option (Int32 × gM)} {k64 : Option Nat → Int32 → gM → Option (Int32 × gM)} (hk44 : ∀ (p0 : Option Nat) (p1 : Int32) (p2 : Int32) (mm : gM), k44 p0 p1 p2 mm = some (r, res) → xX l E Y_Teller_giveNumber n0 s0 (some (.int r)) res 44 [(0, .inr (.inr p0)), (1, .inl p1), (2, .inl p2)] [] mm) (hk64 : ∀ (p0 : Option Nat) (p1 : Int32) (mm : gM), k64 p0 p1 mm = some (r, res) → xX l E Y_Teller_giveNumber n0 s0 (some (.int r)) res 64 [(0, .inr (.inr p0)), (1, .inl p1)] [] mm) : ∀ (f : Nat) (p0 : Option Nat) (p1 : Int32) (p2 : Int32) (mm : gM), L_Teller_giveNumber_23 k44 k64 f p0 p1 p2 mm = some (r, res) → xX l E Y_Teller_giveNumber n0 s0 (some (.int r)) res 23 [(0, .inr (.inr p0)), (1, .inl p1), (2, .inl p2)] [] mm := by
  intro f
  induction f with
  | zero =>
    intro p0 p1 p2 mm h
    rw [L_Teller_giveNumber_23] at h
    cases h
  | succ f ih =>
    intro p0 p1 p2 mm h
    rw [L_Teller_giveNumber_23] at h
    refine x_iloadn 23 2 d_Teller_giveNumber_23 rfl rfl ?_
    refine x_aloadn 24 0 d_Teller_giveNumber_24 rfl rfl ?_
    replace h := gb1_elim h; obtain ⟨v12, h13, h⟩ := h
    refine x_getR 25 h13 fl_Teller_21 d_Teller_giveNumber_25 ?_
    replace h := gb1_elim h; obtain ⟨v14, h15, h⟩ := h
    refine x_getR 28 h15 fl_Teller_65 d_Teller_giveNumber_28 ?_
    refine x_iloadn 31 1 d_Teller_giveNumber_31 rfl rfl ?_
    replace h := gb1_elim h; obtain ⟨v16, h17, h⟩ := h
    refine x_iald 32 rfl h17 d_Teller_giveNumber_32 ?_
    refine x_icmp_gt 33 64 d_Teller_giveNumber_33 (by decide) (fun c18 => ?_) (fun c18 => ?_)
    · replace h := gif_t h c18
      refine x_sub [0, 1] rfl ?_
      exact hk64 _ _ _ h
    · replace h := gif_f h c18
      refine x_aloadn 36 0 d_Teller_giveNumber_36 rfl rfl ?_
      refine x_iloadn 37 2 d_Teller_giveNumber_37 rfl rfl ?_
      replace h := gb1_elim h; obtain ⟨b22, h23, h⟩ := h
      replace h := gb2_elim h; obtain ⟨v19, mm20, h21, h⟩ := h
      refine x_callV 38 1 (as := [.inl p2]) (st' := []) (rs := [.inr (.inr v19)]) (k_Teller_toldWith h21) rfl cf_Teller_68 ⟨rfl, by decide +kernel, by decide, by decide, Nat.le_of_ble_eq_true rfl⟩ h23 rfl d_Teller_giveNumber_38 ?_
      refine x_ifnonnull 41 58 d_Teller_giveNumber_41 (by decide) (fun c24 => ?_) (fun c24 => ?_)
      · replace h := gif_t h c24
        exact hk44 _ _ _ _ h
      · replace h := gif_f h c24
        replace h := gLet_elim h; obtain ⟨x25, ex25, h⟩ := h
        refine x_iinc 58 2 (v := x25) (lv' := [(2, .inl x25), (0, .inr (.inr p0)), (1, .inl p1)]) d_Teller_giveNumber_58 rfl (by rw [ex25]; rfl) (by decide) rfl ?_
        refine x_goto 61 23 d_Teller_giveNumber_61 (by decide) ?_
        refine x_sub [1, 2, 0] rfl ?_
        exact ih _ _ _ _ h
def L_Teller_giveNumber_2 (k44 : Option Nat → Int32 → Int32 → gM → Option (Int32 × gM)) (k70 : gM → Option (Int32 × gM)) : Nat → Option Nat → Int32 → gM → Option (Int32 × gM)
  | 0, _, _, _ => none
  | f + 1, p0, p1, mm =>
    gb1 (gfR 1 1 p0 mm) fun v1 =>
    gb1 (gfI 2 3 v1 mm) fun v3 =>
    if v3 ≤ p1 then (
      k70  mm)
    else (
      gb1 (gfR 1 1 p0 mm) fun v6 =>
      gb1 (gfR 2 2 v6 mm) fun v8 =>
      gb1 (gaI 0 v8 p1 mm) fun v10 =>
      L_Teller_giveNumber_23 (fun p0 p1 p2 mm =>
        k44 p0 p1 p2 mm) (fun p0 p1 mm =>
        gLet (p1 + 1) fun x26 =>
        L_Teller_giveNumber_2 k44 k70 f p0 x26 mm) gF p0 p1 v10 mm)
set_option maxHeartbeats 4000000 in
set_option maxRecDepth 100000 in
theorem wL_Teller_giveNumber_2 {l : Launch} {E : gD} {n0 s0 : Nat} {r : Int32} {res : gM} {k44 : Option Nat → Int32 → Int32 → gM → Option (Int32 × gM)} {k70 : gM → Option (Int32 × gM)} (hk44 : ∀ (p0 : Option Nat) (p1 : Int32) (p2 : Int32) (mm : gM), k44 p0 p1 p2 mm = some (r, res) → xX l E Y_Teller_giveNumber n0 s0 (some (.int r)) res 44 [(0, .inr (.inr p0)), (1, .inl p1), (2, .inl p2)] [] mm) (hk70 : ∀  (mm : gM), k70  mm = some (r, res) → xX l E Y_Teller_giveNumber n0 s0 (some (.int r)) res 70 [] [] mm) : ∀ (f : Nat) (p0 : Option Nat) (p1 : Int32) (mm : gM), L_Teller_giveNumber_2 k44 k70 f p0 p1 mm = some (r, res) → xX l E Y_Teller_giveNumber n0 s0 (some (.int r)) res 2 [(0, .inr (.inr p0)), (1, .inl p1)] [] mm := by
  intro f
  induction f with
  | zero =>
    intro p0 p1 mm h
    rw [L_Teller_giveNumber_2] at h
    cases h
  | succ f ih =>
    intro p0 p1 mm h
    rw [L_Teller_giveNumber_2] at h
    refine x_iloadn 2 1 d_Teller_giveNumber_2 rfl rfl ?_
    refine x_aloadn 3 0 d_Teller_giveNumber_3 rfl rfl ?_
    replace h := gb1_elim h; obtain ⟨v1, h2, h⟩ := h
    refine x_getR 4 h2 fl_Teller_21 d_Teller_giveNumber_4 ?_
    replace h := gb1_elim h; obtain ⟨v3, h4, h⟩ := h
    refine x_getI 7 h4 fl_Teller_58 d_Teller_giveNumber_7 ?_
    refine x_icmp_ge 10 70 d_Teller_giveNumber_10 (by decide) (fun c5 => ?_) (fun c5 => ?_)
    · replace h := gif_t h c5
      refine x_sub [] rfl ?_
      exact hk70 _ h
    · replace h := gif_f h c5
      refine x_aloadn 13 0 d_Teller_giveNumber_13 rfl rfl ?_
      replace h := gb1_elim h; obtain ⟨v6, h7, h⟩ := h
      refine x_getR 14 h7 fl_Teller_21 d_Teller_giveNumber_14 ?_
      replace h := gb1_elim h; obtain ⟨v8, h9, h⟩ := h
      refine x_getR 17 h9 fl_Teller_61 d_Teller_giveNumber_17 ?_
      refine x_iloadn 20 1 d_Teller_giveNumber_20 rfl rfl ?_
      replace h := gb1_elim h; obtain ⟨v10, h11, h⟩ := h
      refine x_iald 21 rfl h11 d_Teller_giveNumber_21 ?_
      refine x_istoren 22 (lv' := [(2, .inl v10), (0, .inr (.inr p0)), (1, .inl p1)]) d_Teller_giveNumber_22 rfl (by decide) rfl ?_
      refine x_sub [1, 2, 0] rfl ?_
      refine wL_Teller_giveNumber_23 ?_ ?_ gF _ _ _ _ h
      · intro p0 p1 p2 mm h
        exact hk44 _ _ _ _ h
      · intro p0 p1 mm h
        replace h := gLet_elim h; obtain ⟨x26, ex26, h⟩ := h
        refine x_iinc 64 1 (v := x26) (lv' := [(1, .inl x26), (0, .inr (.inr p0))]) d_Teller_giveNumber_64 rfl (by rw [ex26]; rfl) (by decide) rfl ?_
        refine x_goto 67 2 d_Teller_giveNumber_67 (by decide) ?_
        refine x_sub [1, 0] rfl ?_
        exact ih _ _ _ h
def F_Teller_giveNumber (b : Nat) (mm : gM) : Option (Int32 × gM) :=
  L_Teller_giveNumber_2 (fun p0 p1 p2 mm =>
    gb1 (gfR 1 1 p0 mm) fun v27 =>
    gb1 (gfR 2 2 v27 mm) fun v29 =>
    gb1 (gsI 0 v29 p1 (p2 + (1 : Int32)) mm) fun mm31 =>
    some (p2, mm31)) (fun  mm =>
    some ((-1 : Int32), mm)) gF (some b) (0 : Int32) mm
set_option maxHeartbeats 8000000 in
set_option maxRecDepth 100000 in
theorem w_Teller_giveNumber {l : Launch} {E : gD} {n0 s0 : Nat} {b : Nat} {r : Int32} {mm res : gM} (h : F_Teller_giveNumber b mm = some (r, res)) : xX l E Y_Teller_giveNumber n0 s0 (some (.int r)) res 0 [(0, .inr (.inr (some b)))] [] mm := by
  unfold F_Teller_giveNumber at h
  refine x_iconst 0 d_Teller_giveNumber_0 (v := (0 : Int32)) (by decide +kernel) ?_
  refine x_istoren 1 (lv' := [(1, .inl (0 : Int32)), (0, .inr (.inr (some b)))]) d_Teller_giveNumber_1 rfl (by decide) rfl ?_
  refine x_sub [1, 0] rfl ?_
  refine wL_Teller_giveNumber_2 ?_ ?_ gF _ _ _ h
  · intro p0 p1 p2 mm h
    refine x_aloadn 44 0 d_Teller_giveNumber_44 rfl rfl ?_
    replace h := gb1_elim h; obtain ⟨v27, h28, h⟩ := h
    refine x_getR 45 h28 fl_Teller_21 d_Teller_giveNumber_45 ?_
    replace h := gb1_elim h; obtain ⟨v29, h30, h⟩ := h
    refine x_getR 48 h30 fl_Teller_61 d_Teller_giveNumber_48 ?_
    refine x_iloadn 51 1 d_Teller_giveNumber_51 rfl rfl ?_
    refine x_iloadn 52 2 d_Teller_giveNumber_52 rfl rfl ?_
    refine x_iconst 53 d_Teller_giveNumber_53 (v := (1 : Int32)) (by decide +kernel) ?_
    refine x_iadd 54 d_Teller_giveNumber_54 ?_
    replace h := gb1_elim h; obtain ⟨mm31, h32, h⟩ := h
    refine x_iast 55 (by decide) rfl h32 d_Teller_giveNumber_55 ?_
    refine x_iloadn 56 2 d_Teller_giveNumber_56 rfl rfl ?_
    cases h
    exact x_ireturn 57 rfl d_Teller_giveNumber_57
  · intro  mm h
    refine x_iconst 70 d_Teller_giveNumber_70 (v := (-1 : Int32)) (by decide +kernel) ?_
    cases h
    exact x_ireturn 71 rfl d_Teller_giveNumber_71
theorem k_Teller_giveNumber {b : Nat} {r : Int32} {mm res : gM} (h : F_Teller_giveNumber b mm = some (r, res)) : ∀ (l : Launch) (E : gD), gLe mm res ∧ gMet l E Y_Teller_giveNumber y_Teller_giveNumber [.inr (.inr (some b))] (some (.int r)) mm res :=
  fun l E => ⟨(w_Teller_giveNumber (l := l) (E := E) (n0 := 0) (s0 := 0) h).1, x_met (by decide +kernel) rfl rfl rfl (Nat.le_of_ble_eq_true rfl) (w_Teller_giveNumber h)⟩
theorem d_S_number_0 : decode b_S_number 0 = .ok (.aload_n 0, 1) := by decide +kernel
theorem d_S_number_1 : decode b_S_number 1 = .ok (.iload_n 1, 1) := by decide +kernel
theorem d_S_number_2 : decode b_S_number 2 = .ok (.invokevirtual 56, 3) := by decide +kernel
theorem d_S_number_5 : decode b_S_number 5 = .ok (.astore_n 2, 1) := by decide +kernel
theorem d_S_number_6 : decode b_S_number 6 = .ok (.aload_n 2, 1) := by decide +kernel
theorem d_S_number_7 : decode b_S_number 7 = .ok (.ifnonnull 7, 3) := by decide +kernel
theorem d_S_number_10 : decode b_S_number 10 = .ok (.iconst (-1), 1) := by decide +kernel
theorem d_S_number_11 : decode b_S_number 11 = .ok (.goto 7, 3) := by decide +kernel
theorem d_S_number_14 : decode b_S_number 14 = .ok (.aload_n 2, 1) := by decide +kernel
theorem d_S_number_15 : decode b_S_number 15 = .ok (.invokevirtual 180, 3) := by decide +kernel
theorem d_S_number_18 : decode b_S_number 18 = .ok (.ireturn, 1) := by decide +kernel
def F_S_number (b : Nat) (a0 : Int32) (mm : gM) : Option (Int32 × gM) :=
  gb1 (grc 0 (some b) mm) fun b4 =>
  gb2 (F_S_tellerAt b4 a0 mm) fun v1 mm2 =>
  if v1 = none then (
    some ((-1 : Int32), mm2))
  else (
    gb1 (grc 1 v1 mm2) fun b10 =>
    gb2 (F_Teller_giveNumber b10  mm2) fun v7 mm8 =>
    some (v7, mm8))
set_option maxHeartbeats 8000000 in
set_option maxRecDepth 100000 in
theorem w_S_number {l : Launch} {E : gD} {n0 s0 : Nat} {b : Nat} {a0 : Int32} {r : Int32} {mm res : gM} (h : F_S_number b a0 mm = some (r, res)) : xX l E Y_S_number n0 s0 (some (.int r)) res 0 [(0, .inr (.inr (some b))), (1, .inl a0)] [] mm := by
  unfold F_S_number at h
  refine x_aloadn 0 0 d_S_number_0 rfl rfl ?_
  refine x_iloadn 1 1 d_S_number_1 rfl rfl ?_
  replace h := gb1_elim h; obtain ⟨b4, h5, h⟩ := h
  replace h := gb2_elim h; obtain ⟨v1, mm2, h3, h⟩ := h
  refine x_callV 2 1 (as := [.inl a0]) (st' := []) (rs := [.inr (.inr v1)]) (k_S_tellerAt h3) rfl cf_S_56 ⟨rfl, by decide +kernel, by decide, by decide, Nat.le_of_ble_eq_true rfl⟩ h5 rfl d_S_number_2 ?_
  refine x_astoren 5 (lv' := [(2, .inr (.inr v1)), (0, .inr (.inr (some b))), (1, .inl a0)]) d_S_number_5 rfl (by decide) rfl ?_
  refine x_aloadn 6 0 d_S_number_6 rfl rfl ?_
  refine x_ifnonnull 7 14 d_S_number_7 (by decide) (fun c6 => ?_) (fun c6 => ?_)
  · replace h := gif_t h c6
    refine x_iconst 10 d_S_number_10 (v := (-1 : Int32)) (by decide +kernel) ?_
    refine x_goto 11 18 d_S_number_11 (by decide) ?_
    cases h
    exact x_ireturn 18 rfl d_S_number_18
  · replace h := gif_f h c6
    refine x_aloadn 14 0 d_S_number_14 rfl rfl ?_
    replace h := gb1_elim h; obtain ⟨b10, h11, h⟩ := h
    replace h := gb2_elim h; obtain ⟨v7, mm8, h9, h⟩ := h
    refine x_callV 15 0 (as := []) (st' := []) (rs := [.inl v7]) (k_Teller_giveNumber h9) rfl cf_S_180 ⟨rfl, by decide +kernel, by decide, by decide, Nat.le_of_ble_eq_true rfl⟩ h11 rfl d_S_number_15 ?_
    cases h
    exact x_ireturn 18 rfl d_S_number_18
theorem k_S_number {b : Nat} {a0 : Int32} {r : Int32} {mm res : gM} (h : F_S_number b a0 mm = some (r, res)) : ∀ (l : Launch) (E : gD), gLe mm res ∧ gMet l E Y_S_number y_S_number [.inr (.inr (some b)), .inl a0] (some (.int r)) mm res :=
  fun l E => ⟨(w_S_number (l := l) (E := E) (n0 := 0) (s0 := 0) h).1, x_met (by decide +kernel) rfl rfl rfl (Nat.le_of_ble_eq_true rfl) (w_S_number h)⟩
theorem d_M_number_0 : decode b_M_number 0 = .ok (.aload_n 0, 1) := by decide +kernel
theorem d_M_number_1 : decode b_M_number 1 = .ok (.iload_n 1, 1) := by decide +kernel
theorem d_M_number_2 : decode b_M_number 2 = .ok (.invokevirtual 92, 3) := by decide +kernel
theorem d_M_number_5 : decode b_M_number 5 = .ok (.ifCond .ne 5, 3) := by decide +kernel
theorem d_M_number_8 : decode b_M_number 8 = .ok (.iconst (-1), 1) := by decide +kernel
theorem d_M_number_9 : decode b_M_number 9 = .ok (.ireturn, 1) := by decide +kernel
theorem d_M_number_10 : decode b_M_number 10 = .ok (.iconst 1, 1) := by decide +kernel
theorem d_M_number_11 : decode b_M_number 11 = .ok (.istore_n 2, 1) := by decide +kernel
theorem d_M_number_12 : decode b_M_number 12 = .ok (.iload_n 2, 1) := by decide +kernel
theorem d_M_number_13 : decode b_M_number 13 = .ok (.sipush 10000, 3) := by decide +kernel
theorem d_M_number_16 : decode b_M_number 16 = .ok (.if_icmp .ge 57, 3) := by decide +kernel
theorem d_M_number_19 : decode b_M_number 19 = .ok (.aload_n 0, 1) := by decide +kernel
theorem d_M_number_20 : decode b_M_number 20 = .ok (.iload_n 1, 1) := by decide +kernel
theorem d_M_number_21 : decode b_M_number 21 = .ok (.iload_n 2, 1) := by decide +kernel
theorem d_M_number_22 : decode b_M_number 22 = .ok (.invokevirtual 147, 3) := by decide +kernel
theorem d_M_number_25 : decode b_M_number 25 = .ok (.ifCond .eq 42, 3) := by decide +kernel
theorem d_M_number_28 : decode b_M_number 28 = .ok (.aload_n 0, 1) := by decide +kernel
theorem d_M_number_29 : decode b_M_number 29 = .ok (.getfield 67, 3) := by decide +kernel
theorem d_M_number_32 : decode b_M_number 32 = .ok (.sipush 10000, 3) := by decide +kernel
theorem d_M_number_35 : decode b_M_number 35 = .ok (.iload_n 1, 1) := by decide +kernel
theorem d_M_number_36 : decode b_M_number 36 = .ok (.imul, 1) := by decide +kernel
theorem d_M_number_37 : decode b_M_number 37 = .ok (.iload_n 2, 1) := by decide +kernel
theorem d_M_number_38 : decode b_M_number 38 = .ok (.iadd, 1) := by decide +kernel
theorem d_M_number_39 : decode b_M_number 39 = .ok (.baload, 1) := by decide +kernel
theorem d_M_number_40 : decode b_M_number 40 = .ok (.ifCond .ne 27, 3) := by decide +kernel
theorem d_M_number_43 : decode b_M_number 43 = .ok (.aload_n 0, 1) := by decide +kernel
theorem d_M_number_44 : decode b_M_number 44 = .ok (.iload_n 1, 1) := by decide +kernel
theorem d_M_number_45 : decode b_M_number 45 = .ok (.iload_n 2, 1) := by decide +kernel
theorem d_M_number_46 : decode b_M_number 46 = .ok (.invokevirtual 112, 3) := by decide +kernel
theorem d_M_number_49 : decode b_M_number 49 = .ok (.ifCond .ge 18, 3) := by decide +kernel
theorem d_M_number_52 : decode b_M_number 52 = .ok (.aload_n 0, 1) := by decide +kernel
theorem d_M_number_53 : decode b_M_number 53 = .ok (.getfield 67, 3) := by decide +kernel
theorem d_M_number_56 : decode b_M_number 56 = .ok (.sipush 10000, 3) := by decide +kernel
theorem d_M_number_59 : decode b_M_number 59 = .ok (.iload_n 1, 1) := by decide +kernel
theorem d_M_number_60 : decode b_M_number 60 = .ok (.imul, 1) := by decide +kernel
theorem d_M_number_61 : decode b_M_number 61 = .ok (.iload_n 2, 1) := by decide +kernel
theorem d_M_number_62 : decode b_M_number 62 = .ok (.iadd, 1) := by decide +kernel
theorem d_M_number_63 : decode b_M_number 63 = .ok (.iconst 1, 1) := by decide +kernel
theorem d_M_number_64 : decode b_M_number 64 = .ok (.bastore, 1) := by decide +kernel
theorem d_M_number_65 : decode b_M_number 65 = .ok (.iload_n 2, 1) := by decide +kernel
theorem d_M_number_66 : decode b_M_number 66 = .ok (.ireturn, 1) := by decide +kernel
theorem d_M_number_67 : decode b_M_number 67 = .ok (.iinc 2 1, 3) := by decide +kernel
theorem d_M_number_70 : decode b_M_number 70 = .ok (.goto (-58), 3) := by decide +kernel
theorem d_M_number_73 : decode b_M_number 73 = .ok (.iconst (-1), 1) := by decide +kernel
theorem d_M_number_74 : decode b_M_number 74 = .ok (.ireturn, 1) := by decide +kernel
def L_M_number_12 (k52 : Option Nat → Int32 → Int32 → gM → Option (Int32 × gM)) (k73 : gM → Option (Int32 × gM)) : Nat → Option Nat → Int32 → Int32 → gM → Option (Int32 × gM)
  | 0, _, _, _, _ => none
  | f + 1, p0, p1, p2, mm =>
    if (10000 : Int32) ≤ p2 then (
      k73  mm)
    else (
      gb1 (grc 10 p0 mm) fun b11 =>
      gb2 (F_M_inBlock b11 p1 p2 mm) fun v8 mm9 =>
      if v8 = 0 then (
        gLet (p2 + 1) fun x14 =>
        L_M_number_12 k52 k73 f p0 p1 x14 mm9)
      else (
        gb1 (gfR 10 22 p0 mm9) fun v15 =>
        gb1 (gaI 2 v15 (((10000 : Int32) * p1) + p2) mm9) fun v17 =>
        if v17 = 0 then (
          gb1 (grc 10 p0 mm9) fun b23 =>
          gb2 (F_M_told b23 p1 p2 mm9) fun v20 mm21 =>
          if 0 ≤ v20 then (
            gLet (p2 + 1) fun x26 =>
            L_M_number_12 k52 k73 f p0 p1 x26 mm21)
          else (
            k52 p0 p1 p2 mm21))
        else (
          gLet (p2 + 1) fun x27 =>
          L_M_number_12 k52 k73 f p0 p1 x27 mm9)))
set_option maxHeartbeats 4000000 in
set_option maxRecDepth 100000 in
theorem wL_M_number_12 {l : Launch} {E : gD} {n0 s0 : Nat} {r : Int32} {res : gM} {k52 : Option Nat → Int32 → Int32 → gM → Option (Int32 × gM)} {k73 : gM → Option (Int32 × gM)} (hk52 : ∀ (p0 : Option Nat) (p1 : Int32) (p2 : Int32) (mm : gM), k52 p0 p1 p2 mm = some (r, res) → xX l E Y_M_number n0 s0 (some (.int r)) res 52 [(0, .inr (.inr p0)), (1, .inl p1), (2, .inl p2)] [] mm) (hk73 : ∀  (mm : gM), k73  mm = some (r, res) → xX l E Y_M_number n0 s0 (some (.int r)) res 73 [] [] mm) : ∀ (f : Nat) (p0 : Option Nat) (p1 : Int32) (p2 : Int32) (mm : gM), L_M_number_12 k52 k73 f p0 p1 p2 mm = some (r, res) → xX l E Y_M_number n0 s0 (some (.int r)) res 12 [(0, .inr (.inr p0)), (1, .inl p1), (2, .inl p2)] [] mm := by
  intro f
  induction f with
  | zero =>
    intro p0 p1 p2 mm h
    rw [L_M_number_12] at h
    cases h
  | succ f ih =>
    intro p0 p1 p2 mm h
    rw [L_M_number_12] at h
    refine x_iloadn 12 2 d_M_number_12 rfl rfl ?_
    refine x_sipush 13 d_M_number_13 (v := (10000 : Int32)) (by decide +kernel) ?_
    refine x_icmp_ge 16 73 d_M_number_16 (by decide) (fun c7 => ?_) (fun c7 => ?_)
    · replace h := gif_t h c7
      refine x_sub [] rfl ?_
      exact hk73 _ h
    · replace h := gif_f h c7
      refine x_aloadn 19 0 d_M_number_19 rfl rfl ?_
      refine x_iloadn 20 1 d_M_number_20 rfl rfl ?_
      refine x_iloadn 21 2 d_M_number_21 rfl rfl ?_
      replace h := gb1_elim h; obtain ⟨b11, h12, h⟩ := h
      replace h := gb2_elim h; obtain ⟨v8, mm9, h10, h⟩ := h
      refine x_callV 22 2 (as := [.inl p1, .inl p2]) (st' := []) (rs := [.inl v8]) (k_M_inBlock h10) rfl cf_M_147 ⟨rfl, by decide +kernel, by decide, by decide, Nat.le_of_ble_eq_true rfl⟩ h12 rfl d_M_number_22 ?_
      refine x_if_eq 25 67 d_M_number_25 (by decide) (fun c13 => ?_) (fun c13 => ?_)
      · replace h := gif_t h c13
        replace h := gLet_elim h; obtain ⟨x14, ex14, h⟩ := h
        refine x_iinc 67 2 (v := x14) (lv' := [(2, .inl x14), (0, .inr (.inr p0)), (1, .inl p1)]) d_M_number_67 rfl (by rw [ex14]; rfl) (by decide) rfl ?_
        refine x_goto 70 12 d_M_number_70 (by decide) ?_
        refine x_sub [1, 2, 0] rfl ?_
        exact ih _ _ _ _ h
      · replace h := gif_f h c13
        refine x_aloadn 28 0 d_M_number_28 rfl rfl ?_
        replace h := gb1_elim h; obtain ⟨v15, h16, h⟩ := h
        refine x_getR 29 h16 fl_M_67 d_M_number_29 ?_
        refine x_sipush 32 d_M_number_32 (v := (10000 : Int32)) (by decide +kernel) ?_
        refine x_iloadn 35 1 d_M_number_35 rfl rfl ?_
        refine x_imul 36 d_M_number_36 ?_
        refine x_iloadn 37 2 d_M_number_37 rfl rfl ?_
        refine x_iadd 38 d_M_number_38 ?_
        replace h := gb1_elim h; obtain ⟨v17, h18, h⟩ := h
        refine x_zald 39 rfl h18 d_M_number_39 ?_
        refine x_if_ne 40 67 d_M_number_40 (by decide) (fun c19 => ?_) (fun c19 => ?_)
        · replace h := gif_t h c19
          refine x_aloadn 43 0 d_M_number_43 rfl rfl ?_
          refine x_iloadn 44 1 d_M_number_44 rfl rfl ?_
          refine x_iloadn 45 2 d_M_number_45 rfl rfl ?_
          replace h := gb1_elim h; obtain ⟨b23, h24, h⟩ := h
          replace h := gb2_elim h; obtain ⟨v20, mm21, h22, h⟩ := h
          refine x_callV 46 2 (as := [.inl p1, .inl p2]) (st' := []) (rs := [.inl v20]) (k_M_told h22) rfl cf_M_112 ⟨rfl, by decide +kernel, by decide, by decide, Nat.le_of_ble_eq_true rfl⟩ h24 rfl d_M_number_46 ?_
          refine x_if_ge 49 67 d_M_number_49 (by decide) (fun c25 => ?_) (fun c25 => ?_)
          · replace h := gif_t h c25
            replace h := gLet_elim h; obtain ⟨x26, ex26, h⟩ := h
            refine x_iinc 67 2 (v := x26) (lv' := [(2, .inl x26), (0, .inr (.inr p0)), (1, .inl p1)]) d_M_number_67 rfl (by rw [ex26]; rfl) (by decide) rfl ?_
            refine x_goto 70 12 d_M_number_70 (by decide) ?_
            refine x_sub [1, 2, 0] rfl ?_
            exact ih _ _ _ _ h
          · replace h := gif_f h c25
            exact hk52 _ _ _ _ h
        · replace h := gif_f h c19
          replace h := gLet_elim h; obtain ⟨x27, ex27, h⟩ := h
          refine x_iinc 67 2 (v := x27) (lv' := [(2, .inl x27), (0, .inr (.inr p0)), (1, .inl p1)]) d_M_number_67 rfl (by rw [ex27]; rfl) (by decide) rfl ?_
          refine x_goto 70 12 d_M_number_70 (by decide) ?_
          refine x_sub [1, 2, 0] rfl ?_
          exact ih _ _ _ _ h
def F_M_number (b : Nat) (a0 : Int32) (mm : gM) : Option (Int32 × gM) :=
  gb1 (grc 10 (some b) mm) fun b4 =>
  gb2 (F_M_isTeller b4 a0 mm) fun v1 mm2 =>
  if v1 = 0 then (
    some ((-1 : Int32), mm2))
  else (
    L_M_number_12 (fun p0 p1 p2 mm =>
      gb1 (gfR 10 22 p0 mm) fun v28 =>
      gb1 (gsI 2 v28 (((10000 : Int32) * p1) + p2) (1 : Int32) mm) fun mm30 =>
      some (p2, mm30)) (fun  mm =>
      some ((-1 : Int32), mm)) gF (some b) a0 (1 : Int32) mm2)
set_option maxHeartbeats 8000000 in
set_option maxRecDepth 100000 in
theorem w_M_number {l : Launch} {E : gD} {n0 s0 : Nat} {b : Nat} {a0 : Int32} {r : Int32} {mm res : gM} (h : F_M_number b a0 mm = some (r, res)) : xX l E Y_M_number n0 s0 (some (.int r)) res 0 [(0, .inr (.inr (some b))), (1, .inl a0)] [] mm := by
  unfold F_M_number at h
  refine x_aloadn 0 0 d_M_number_0 rfl rfl ?_
  refine x_iloadn 1 1 d_M_number_1 rfl rfl ?_
  replace h := gb1_elim h; obtain ⟨b4, h5, h⟩ := h
  replace h := gb2_elim h; obtain ⟨v1, mm2, h3, h⟩ := h
  refine x_callV 2 1 (as := [.inl a0]) (st' := []) (rs := [.inl v1]) (k_M_isTeller h3) rfl cf_M_92 ⟨rfl, by decide +kernel, by decide, by decide, Nat.le_of_ble_eq_true rfl⟩ h5 rfl d_M_number_2 ?_
  refine x_if_ne 5 10 d_M_number_5 (by decide) (fun c6 => ?_) (fun c6 => ?_)
  · replace h := gif_t h c6
    refine x_iconst 8 d_M_number_8 (v := (-1 : Int32)) (by decide +kernel) ?_
    cases h
    exact x_ireturn 9 rfl d_M_number_9
  · replace h := gif_f h c6
    refine x_iconst 10 d_M_number_10 (v := (1 : Int32)) (by decide +kernel) ?_
    refine x_istoren 11 (lv' := [(2, .inl (1 : Int32)), (0, .inr (.inr (some b))), (1, .inl a0)]) d_M_number_11 rfl (by decide) rfl ?_
    refine x_sub [1, 2, 0] rfl ?_
    refine wL_M_number_12 ?_ ?_ gF _ _ _ _ h
    · intro p0 p1 p2 mm h
      refine x_aloadn 52 0 d_M_number_52 rfl rfl ?_
      replace h := gb1_elim h; obtain ⟨v28, h29, h⟩ := h
      refine x_getR 53 h29 fl_M_67 d_M_number_53 ?_
      refine x_sipush 56 d_M_number_56 (v := (10000 : Int32)) (by decide +kernel) ?_
      refine x_iloadn 59 1 d_M_number_59 rfl rfl ?_
      refine x_imul 60 d_M_number_60 ?_
      refine x_iloadn 61 2 d_M_number_61 rfl rfl ?_
      refine x_iadd 62 d_M_number_62 ?_
      refine x_iconst 63 d_M_number_63 (v := (1 : Int32)) (by decide +kernel) ?_
      replace h := gb1_elim h; obtain ⟨mm30, h31, h⟩ := h
      refine x_zast 64 (by decide) (by decide) rfl h31 d_M_number_64 ?_
      refine x_iloadn 65 2 d_M_number_65 rfl rfl ?_
      cases h
      exact x_ireturn 66 rfl d_M_number_66
    · intro  mm h
      refine x_iconst 73 d_M_number_73 (v := (-1 : Int32)) (by decide +kernel) ?_
      cases h
      exact x_ireturn 74 rfl d_M_number_74
theorem k_M_number {b : Nat} {a0 : Int32} {r : Int32} {mm res : gM} (h : F_M_number b a0 mm = some (r, res)) : ∀ (l : Launch) (E : gD), gLe mm res ∧ gMet l E Y_M_number y_M_number [.inr (.inr (some b)), .inl a0] (some (.int r)) mm res :=
  fun l E => ⟨(w_M_number (l := l) (E := E) (n0 := 0) (s0 := 0) h).1, x_met (by decide +kernel) rfl rfl rfl (Nat.le_of_ble_eq_true rfl) (w_M_number h)⟩
theorem d_AL_isEmpty_0 : decode b_AL_isEmpty 0 = .ok (.aload_n 0, 1) := by decide +kernel
theorem d_AL_isEmpty_1 : decode b_AL_isEmpty 1 = .ok (.getfield 48, 3) := by decide +kernel
theorem d_AL_isEmpty_4 : decode b_AL_isEmpty 4 = .ok (.ifCond .ne 7, 3) := by decide +kernel
theorem d_AL_isEmpty_7 : decode b_AL_isEmpty 7 = .ok (.iconst 1, 1) := by decide +kernel
theorem d_AL_isEmpty_8 : decode b_AL_isEmpty 8 = .ok (.goto 4, 3) := by decide +kernel
theorem d_AL_isEmpty_11 : decode b_AL_isEmpty 11 = .ok (.iconst 0, 1) := by decide +kernel
theorem d_AL_isEmpty_12 : decode b_AL_isEmpty 12 = .ok (.ireturn, 1) := by decide +kernel
def F_AL_isEmpty (b : Nat) (mm : gM) : Option (Int32 × gM) :=
  gb1 (gfI 9 1 (some b) mm) fun v1 =>
  if v1 = 0 then (
    some ((1 : Int32), mm))
  else (
    some ((0 : Int32), mm))
set_option maxHeartbeats 8000000 in
set_option maxRecDepth 100000 in
theorem w_AL_isEmpty {l : Launch} {E : gD} {n0 s0 : Nat} {b : Nat} {r : Int32} {mm res : gM} (h : F_AL_isEmpty b mm = some (r, res)) : xX l E Y_AL_isEmpty n0 s0 (some (.int r)) res 0 [(0, .inr (.inr (some b)))] [] mm := by
  unfold F_AL_isEmpty at h
  refine x_aloadn 0 0 d_AL_isEmpty_0 rfl rfl ?_
  replace h := gb1_elim h; obtain ⟨v1, h2, h⟩ := h
  refine x_getI 1 h2 fl_AL_48 d_AL_isEmpty_1 ?_
  refine x_if_ne 4 11 d_AL_isEmpty_4 (by decide) (fun c3 => ?_) (fun c3 => ?_)
  · replace h := gif_t h c3
    refine x_iconst 7 d_AL_isEmpty_7 (v := (1 : Int32)) (by decide +kernel) ?_
    refine x_goto 8 12 d_AL_isEmpty_8 (by decide) ?_
    cases h
    exact x_zreturn 12 (by decide) rfl d_AL_isEmpty_12
  · replace h := gif_f h c3
    refine x_iconst 11 d_AL_isEmpty_11 (v := (0 : Int32)) (by decide +kernel) ?_
    cases h
    exact x_zreturn 12 (by decide) rfl d_AL_isEmpty_12
theorem k_AL_isEmpty {b : Nat} {r : Int32} {mm res : gM} (h : F_AL_isEmpty b mm = some (r, res)) : ∀ (l : Launch) (E : gD), gLe mm res ∧ gMet l E Y_AL_isEmpty y_AL_isEmpty [.inr (.inr (some b))] (some (.int r)) mm res :=
  fun l E => ⟨(w_AL_isEmpty (l := l) (E := E) (n0 := 0) (s0 := 0) h).1, x_met (by decide +kernel) rfl rfl rfl (Nat.le_of_ble_eq_true rfl) (w_AL_isEmpty h)⟩
theorem d_Teller_lastLostFrom_0 : decode b_Teller_lastLostFrom 0 = .ok (.aload_n 0, 1) := by decide +kernel
theorem d_Teller_lastLostFrom_1 : decode b_Teller_lastLostFrom 1 = .ok (.iload_n 1, 1) := by decide +kernel
theorem d_Teller_lastLostFrom_2 : decode b_Teller_lastLostFrom 2 = .ok (.invokevirtual 50, 3) := by decide +kernel
theorem d_Teller_lastLostFrom_5 : decode b_Teller_lastLostFrom 5 = .ok (.istore_n 2, 1) := by decide +kernel
theorem d_Teller_lastLostFrom_6 : decode b_Teller_lastLostFrom 6 = .ok (.iload_n 2, 1) := by decide +kernel
theorem d_Teller_lastLostFrom_7 : decode b_Teller_lastLostFrom 7 = .ok (.aload_n 0, 1) := by decide +kernel
theorem d_Teller_lastLostFrom_8 : decode b_Teller_lastLostFrom 8 = .ok (.getfield 12, 3) := by decide +kernel
theorem d_Teller_lastLostFrom_11 : decode b_Teller_lastLostFrom 11 = .ok (.invokevirtual 36, 3) := by decide +kernel
theorem d_Teller_lastLostFrom_14 : decode b_Teller_lastLostFrom 14 = .ok (.if_icmp .ge 20, 3) := by decide +kernel
theorem d_Teller_lastLostFrom_17 : decode b_Teller_lastLostFrom 17 = .ok (.aload_n 0, 1) := by decide +kernel
theorem d_Teller_lastLostFrom_18 : decode b_Teller_lastLostFrom 18 = .ok (.getfield 12, 3) := by decide +kernel
theorem d_Teller_lastLostFrom_21 : decode b_Teller_lastLostFrom 21 = .ok (.iload_n 2, 1) := by decide +kernel
theorem d_Teller_lastLostFrom_22 : decode b_Teller_lastLostFrom 22 = .ok (.invokevirtual 40, 3) := by decide +kernel
theorem d_Teller_lastLostFrom_25 : decode b_Teller_lastLostFrom 25 = .ok (.checkcast 44, 3) := by decide +kernel
theorem d_Teller_lastLostFrom_28 : decode b_Teller_lastLostFrom 28 = .ok (.getfield 46, 3) := by decide +kernel
theorem d_Teller_lastLostFrom_31 : decode b_Teller_lastLostFrom 31 = .ok (.goto 4, 3) := by decide +kernel
theorem d_Teller_lastLostFrom_34 : decode b_Teller_lastLostFrom 34 = .ok (.iload_n 1, 1) := by decide +kernel
theorem d_Teller_lastLostFrom_35 : decode b_Teller_lastLostFrom 35 = .ok (.istore_n 3, 1) := by decide +kernel
theorem d_Teller_lastLostFrom_36 : decode b_Teller_lastLostFrom 36 = .ok (.iload_n 3, 1) := by decide +kernel
theorem d_Teller_lastLostFrom_37 : decode b_Teller_lastLostFrom 37 = .ok (.aload_n 0, 1) := by decide +kernel
theorem d_Teller_lastLostFrom_38 : decode b_Teller_lastLostFrom 38 = .ok (.getfield 21, 3) := by decide +kernel
theorem d_Teller_lastLostFrom_41 : decode b_Teller_lastLostFrom 41 = .ok (.iload_n 1, 1) := by decide +kernel
theorem d_Teller_lastLostFrom_42 : decode b_Teller_lastLostFrom 42 = .ok (.invokevirtual 88, 3) := by decide +kernel
theorem d_Teller_lastLostFrom_45 : decode b_Teller_lastLostFrom 45 = .ok (.invokestatic 91, 3) := by decide +kernel
theorem d_Teller_lastLostFrom_48 : decode b_Teller_lastLostFrom 48 = .ok (.iconst 1, 1) := by decide +kernel
theorem d_Teller_lastLostFrom_49 : decode b_Teller_lastLostFrom 49 = .ok (.isub, 1) := by decide +kernel
theorem d_Teller_lastLostFrom_50 : decode b_Teller_lastLostFrom 50 = .ok (.ireturn, 1) := by decide +kernel
def F_Teller_lastLostFrom (b : Nat) (a0 : Int32) (mm : gM) : Option (Int32 × gM) :=
  gb1 (grc 1 (some b) mm) fun b4 =>
  gb2 (F_Teller_placeOf b4 a0 mm) fun v1 mm2 =>
  gb1 (gfR 1 0 (some b) mm2) fun v6 =>
  gb1 (grc 9 v6 mm2) fun b11 =>
  gb2 (F_AL_size b11  mm2) fun v8 mm9 =>
  gLet (fun (p0 : Option Nat) (p1 : Int32) (q0 : Int32) (mm : gM) =>
    gb1 (gfR 1 1 p0 mm) fun v13 =>
    gb1 (grc 2 v13 mm) fun b18 =>
    gb2 (F_Blocks_firstFrom b18 p1 mm) fun v15 mm16 =>
    gLet (if v15 < q0 then v15 else q0) fun x20 =>
    some ((x20 - (1 : Int32)), mm16)) fun J35 =>
  if v8 ≤ v1 then (
    J35 (some b) a0 a0 mm9)
  else (
    gb1 (gfR 1 0 (some b) mm9) fun v22 =>
    gb1 (grc 9 v22 mm9) fun b27 =>
    gb2 (F_AL_get b27 v1 mm9) fun v24 mm25 =>
    gb1 (gcs 7 v24 mm25) fun u29 =>
    gb1 (gfI 7 2 v24 mm25) fun v31 =>
    J35 (some b) a0 v31 mm25)
set_option maxHeartbeats 8000000 in
set_option maxRecDepth 100000 in
theorem w_Teller_lastLostFrom {l : Launch} {E : gD} {n0 s0 : Nat} {b : Nat} {a0 : Int32} {r : Int32} {mm res : gM} (h : F_Teller_lastLostFrom b a0 mm = some (r, res)) : xX l E Y_Teller_lastLostFrom n0 s0 (some (.int r)) res 0 [(0, .inr (.inr (some b))), (1, .inl a0)] [] mm := by
  unfold F_Teller_lastLostFrom at h
  refine x_aloadn 0 0 d_Teller_lastLostFrom_0 rfl rfl ?_
  refine x_iloadn 1 1 d_Teller_lastLostFrom_1 rfl rfl ?_
  replace h := gb1_elim h; obtain ⟨b4, h5, h⟩ := h
  replace h := gb2_elim h; obtain ⟨v1, mm2, h3, h⟩ := h
  refine x_callV 2 1 (as := [.inl a0]) (st' := []) (rs := [.inl v1]) (k_Teller_placeOf h3) rfl cf_Teller_50 ⟨rfl, by decide +kernel, by decide, by decide, Nat.le_of_ble_eq_true rfl⟩ h5 rfl d_Teller_lastLostFrom_2 ?_
  refine x_istoren 5 (lv' := [(2, .inl v1), (0, .inr (.inr (some b))), (1, .inl a0)]) d_Teller_lastLostFrom_5 rfl (by decide) rfl ?_
  refine x_iloadn 6 0 d_Teller_lastLostFrom_6 rfl rfl ?_
  refine x_aloadn 7 1 d_Teller_lastLostFrom_7 rfl rfl ?_
  replace h := gb1_elim h; obtain ⟨v6, h7, h⟩ := h
  refine x_getR 8 h7 fl_Teller_12 d_Teller_lastLostFrom_8 ?_
  replace h := gb1_elim h; obtain ⟨b11, h12, h⟩ := h
  replace h := gb2_elim h; obtain ⟨v8, mm9, h10, h⟩ := h
  refine x_callV 11 0 (as := []) (st' := [.inl v1]) (rs := [.inl v8]) (k_AL_size h10) rfl cf_Teller_36 ⟨rfl, by decide +kernel, by decide, by decide, Nat.le_of_ble_eq_true rfl⟩ h12 rfl d_Teller_lastLostFrom_11 ?_
  replace h := gLet_elim h; obtain ⟨J35, hJ35, h⟩ := h
  have kJ35 : ∀ (p0 : Option Nat) (p1 : Int32) (q0 : Int32) (mm : gM), J35 p0 p1 q0 mm = some (r, res) → xX l E Y_Teller_lastLostFrom n0 s0 (some (.int r)) res 35 [(0, .inr (.inr p0)), (1, .inl p1)] [.inl q0] mm := by
    intro p0 p1 q0 mm h
    rw [hJ35] at h
    refine x_istoren 35 (lv' := [(3, .inl q0), (0, .inr (.inr p0)), (1, .inl p1)]) d_Teller_lastLostFrom_35 rfl (by decide) rfl ?_
    refine x_iloadn 36 0 d_Teller_lastLostFrom_36 rfl rfl ?_
    refine x_aloadn 37 1 d_Teller_lastLostFrom_37 rfl rfl ?_
    replace h := gb1_elim h; obtain ⟨v13, h14, h⟩ := h
    refine x_getR 38 h14 fl_Teller_21 d_Teller_lastLostFrom_38 ?_
    refine x_iloadn 41 2 d_Teller_lastLostFrom_41 rfl rfl ?_
    replace h := gb1_elim h; obtain ⟨b18, h19, h⟩ := h
    replace h := gb2_elim h; obtain ⟨v15, mm16, h17, h⟩ := h
    refine x_callV 42 1 (as := [.inl p1]) (st' := [.inl q0]) (rs := [.inl v15]) (k_Blocks_firstFrom h17) rfl cf_Teller_88 ⟨rfl, by decide +kernel, by decide, by decide, Nat.le_of_ble_eq_true rfl⟩ h19 rfl d_Teller_lastLostFrom_42 ?_
    refine x_mmin 45 (gT_in3 14 rfl) (gT_in1 20 rfl) (gT_in0 11 rfl) (gT_in1 21 rfl) (by decide) (Nat.le_of_ble_eq_true rfl) d_Teller_lastLostFrom_45 ?_
    replace h := gLet_elim h; obtain ⟨x20, ex20, h⟩ := h
    refine x_topi ex20 ?_
    refine x_iconst 48 d_Teller_lastLostFrom_48 (v := (1 : Int32)) (by decide +kernel) ?_
    refine x_isub 49 d_Teller_lastLostFrom_49 ?_
    cases h
    exact x_ireturn 50 rfl d_Teller_lastLostFrom_50
  refine x_icmp_ge 14 34 d_Teller_lastLostFrom_14 (by decide) (fun c21 => ?_) (fun c21 => ?_)
  · replace h := gif_t h c21
    refine x_iloadn 34 2 d_Teller_lastLostFrom_34 rfl rfl ?_
    refine x_sub [1, 2] rfl ?_
    exact kJ35 _ _ _ _ h
  · replace h := gif_f h c21
    refine x_aloadn 17 1 d_Teller_lastLostFrom_17 rfl rfl ?_
    replace h := gb1_elim h; obtain ⟨v22, h23, h⟩ := h
    refine x_getR 18 h23 fl_Teller_12 d_Teller_lastLostFrom_18 ?_
    refine x_iloadn 21 0 d_Teller_lastLostFrom_21 rfl rfl ?_
    replace h := gb1_elim h; obtain ⟨b27, h28, h⟩ := h
    replace h := gb2_elim h; obtain ⟨v24, mm25, h26, h⟩ := h
    refine x_callV 22 1 (as := [.inl v1]) (st' := []) (rs := [.inr (.inr v24)]) (k_AL_get h26) rfl cf_Teller_40 ⟨rfl, by decide +kernel, by decide, by decide, Nat.le_of_ble_eq_true rfl⟩ h28 rfl d_Teller_lastLostFrom_22 ?_
    replace h := gb1_elim h; obtain ⟨u29, h30, h⟩ := h
    refine x_cast 25 h30 (show gCl[7]? = some (R_Telling, T_Telling, 7) from rfl) (gT_in1 75 rfl) d_Teller_lastLostFrom_25 ?_
    replace h := gb1_elim h; obtain ⟨v31, h32, h⟩ := h
    refine x_getI 28 h32 fl_Teller_46 d_Teller_lastLostFrom_28 ?_
    refine x_goto 31 35 d_Teller_lastLostFrom_31 (by decide) ?_
    refine x_sub [1, 2] rfl ?_
    exact kJ35 _ _ _ _ h
theorem k_Teller_lastLostFrom {b : Nat} {a0 : Int32} {r : Int32} {mm res : gM} (h : F_Teller_lastLostFrom b a0 mm = some (r, res)) : ∀ (l : Launch) (E : gD), gLe mm res ∧ gMet l E Y_Teller_lastLostFrom y_Teller_lastLostFrom [.inr (.inr (some b)), .inl a0] (some (.int r)) mm res :=
  fun l E => ⟨(w_Teller_lastLostFrom (l := l) (E := E) (n0 := 0) (s0 := 0) h).1, x_met (by decide +kernel) rfl rfl rfl (Nat.le_of_ble_eq_true rfl) (w_Teller_lastLostFrom h)⟩
theorem d_Blocks_lastAround_0 : decode b_Blocks_lastAround 0 = .ok (.iconst 0, 1) := by decide +kernel
theorem d_Blocks_lastAround_1 : decode b_Blocks_lastAround 1 = .ok (.istore_n 2, 1) := by decide +kernel
theorem d_Blocks_lastAround_2 : decode b_Blocks_lastAround 2 = .ok (.iload_n 2, 1) := by decide +kernel
theorem d_Blocks_lastAround_3 : decode b_Blocks_lastAround 3 = .ok (.aload_n 0, 1) := by decide +kernel
theorem d_Blocks_lastAround_4 : decode b_Blocks_lastAround 4 = .ok (.getfield 21, 3) := by decide +kernel
theorem d_Blocks_lastAround_7 : decode b_Blocks_lastAround 7 = .ok (.if_icmp .ge 36, 3) := by decide +kernel
theorem d_Blocks_lastAround_10 : decode b_Blocks_lastAround 10 = .ok (.aload_n 0, 1) := by decide +kernel
theorem d_Blocks_lastAround_11 : decode b_Blocks_lastAround 11 = .ok (.getfield 9, 3) := by decide +kernel
theorem d_Blocks_lastAround_14 : decode b_Blocks_lastAround 14 = .ok (.iload_n 2, 1) := by decide +kernel
theorem d_Blocks_lastAround_15 : decode b_Blocks_lastAround 15 = .ok (.iaload, 1) := by decide +kernel
theorem d_Blocks_lastAround_16 : decode b_Blocks_lastAround 16 = .ok (.iload_n 1, 1) := by decide +kernel
theorem d_Blocks_lastAround_17 : decode b_Blocks_lastAround 17 = .ok (.if_icmp .gt 20, 3) := by decide +kernel
theorem d_Blocks_lastAround_20 : decode b_Blocks_lastAround 20 = .ok (.iload_n 1, 1) := by decide +kernel
theorem d_Blocks_lastAround_21 : decode b_Blocks_lastAround 21 = .ok (.aload_n 0, 1) := by decide +kernel
theorem d_Blocks_lastAround_22 : decode b_Blocks_lastAround 22 = .ok (.getfield 15, 3) := by decide +kernel
theorem d_Blocks_lastAround_25 : decode b_Blocks_lastAround 25 = .ok (.iload_n 2, 1) := by decide +kernel
theorem d_Blocks_lastAround_26 : decode b_Blocks_lastAround 26 = .ok (.iaload, 1) := by decide +kernel
theorem d_Blocks_lastAround_27 : decode b_Blocks_lastAround 27 = .ok (.if_icmp .gt 10, 3) := by decide +kernel
theorem d_Blocks_lastAround_30 : decode b_Blocks_lastAround 30 = .ok (.aload_n 0, 1) := by decide +kernel
theorem d_Blocks_lastAround_31 : decode b_Blocks_lastAround 31 = .ok (.getfield 15, 3) := by decide +kernel
theorem d_Blocks_lastAround_34 : decode b_Blocks_lastAround 34 = .ok (.iload_n 2, 1) := by decide +kernel
theorem d_Blocks_lastAround_35 : decode b_Blocks_lastAround 35 = .ok (.iaload, 1) := by decide +kernel
theorem d_Blocks_lastAround_36 : decode b_Blocks_lastAround 36 = .ok (.ireturn, 1) := by decide +kernel
theorem d_Blocks_lastAround_37 : decode b_Blocks_lastAround 37 = .ok (.iinc 2 1, 3) := by decide +kernel
theorem d_Blocks_lastAround_40 : decode b_Blocks_lastAround 40 = .ok (.goto (-38), 3) := by decide +kernel
theorem d_Blocks_lastAround_43 : decode b_Blocks_lastAround 43 = .ok (.iload_n 1, 1) := by decide +kernel
theorem d_Blocks_lastAround_44 : decode b_Blocks_lastAround 44 = .ok (.ireturn, 1) := by decide +kernel
def L_Blocks_lastAround_2 (k30 : Option Nat → Int32 → gM → Option (Int32 × gM)) (k43 : Int32 → gM → Option (Int32 × gM)) : Nat → Option Nat → Int32 → Int32 → gM → Option (Int32 × gM)
  | 0, _, _, _, _ => none
  | f + 1, p0, p1, p2, mm =>
    gb1 (gfI 2 3 p0 mm) fun v1 =>
    if v1 ≤ p2 then (
      k43 p1 mm)
    else (
      gb1 (gfR 2 0 p0 mm) fun v4 =>
      gb1 (gaI 0 v4 p2 mm) fun v6 =>
      if p1 < v6 then (
        gLet (p2 + 1) fun x9 =>
        L_Blocks_lastAround_2 k30 k43 f p0 p1 x9 mm)
      else (
        gb1 (gfR 2 1 p0 mm) fun v10 =>
        gb1 (gaI 0 v10 p2 mm) fun v12 =>
        if v12 < p1 then (
          gLet (p2 + 1) fun x15 =>
          L_Blocks_lastAround_2 k30 k43 f p0 p1 x15 mm)
        else (
          k30 p0 p2 mm)))
set_option maxHeartbeats 4000000 in
set_option maxRecDepth 100000 in
theorem wL_Blocks_lastAround_2 {l : Launch} {E : gD} {n0 s0 : Nat} {r : Int32} {res : gM} {k30 : Option Nat → Int32 → gM → Option (Int32 × gM)} {k43 : Int32 → gM → Option (Int32 × gM)} (hk30 : ∀ (p0 : Option Nat) (p2 : Int32) (mm : gM), k30 p0 p2 mm = some (r, res) → xX l E Y_Blocks_lastAround n0 s0 (some (.int r)) res 30 [(0, .inr (.inr p0)), (2, .inl p2)] [] mm) (hk43 : ∀ (p1 : Int32) (mm : gM), k43 p1 mm = some (r, res) → xX l E Y_Blocks_lastAround n0 s0 (some (.int r)) res 43 [(1, .inl p1)] [] mm) : ∀ (f : Nat) (p0 : Option Nat) (p1 : Int32) (p2 : Int32) (mm : gM), L_Blocks_lastAround_2 k30 k43 f p0 p1 p2 mm = some (r, res) → xX l E Y_Blocks_lastAround n0 s0 (some (.int r)) res 2 [(0, .inr (.inr p0)), (1, .inl p1), (2, .inl p2)] [] mm := by
  intro f
  induction f with
  | zero =>
    intro p0 p1 p2 mm h
    rw [L_Blocks_lastAround_2] at h
    cases h
  | succ f ih =>
    intro p0 p1 p2 mm h
    rw [L_Blocks_lastAround_2] at h
    refine x_iloadn 2 2 d_Blocks_lastAround_2 rfl rfl ?_
    refine x_aloadn 3 0 d_Blocks_lastAround_3 rfl rfl ?_
    replace h := gb1_elim h; obtain ⟨v1, h2, h⟩ := h
    refine x_getI 4 h2 fl_Blocks_21 d_Blocks_lastAround_4 ?_
    refine x_icmp_ge 7 43 d_Blocks_lastAround_7 (by decide) (fun c3 => ?_) (fun c3 => ?_)
    · replace h := gif_t h c3
      refine x_sub [1] rfl ?_
      exact hk43 _ _ h
    · replace h := gif_f h c3
      refine x_aloadn 10 0 d_Blocks_lastAround_10 rfl rfl ?_
      replace h := gb1_elim h; obtain ⟨v4, h5, h⟩ := h
      refine x_getR 11 h5 fl_Blocks_9 d_Blocks_lastAround_11 ?_
      refine x_iloadn 14 2 d_Blocks_lastAround_14 rfl rfl ?_
      replace h := gb1_elim h; obtain ⟨v6, h7, h⟩ := h
      refine x_iald 15 rfl h7 d_Blocks_lastAround_15 ?_
      refine x_iloadn 16 1 d_Blocks_lastAround_16 rfl rfl ?_
      refine x_icmp_gt 17 37 d_Blocks_lastAround_17 (by decide) (fun c8 => ?_) (fun c8 => ?_)
      · replace h := gif_t h c8
        replace h := gLet_elim h; obtain ⟨x9, ex9, h⟩ := h
        refine x_iinc 37 2 (v := x9) (lv' := [(2, .inl x9), (0, .inr (.inr p0)), (1, .inl p1)]) d_Blocks_lastAround_37 rfl (by rw [ex9]; rfl) (by decide) rfl ?_
        refine x_goto 40 2 d_Blocks_lastAround_40 (by decide) ?_
        refine x_sub [1, 2, 0] rfl ?_
        exact ih _ _ _ _ h
      · replace h := gif_f h c8
        refine x_iloadn 20 1 d_Blocks_lastAround_20 rfl rfl ?_
        refine x_aloadn 21 0 d_Blocks_lastAround_21 rfl rfl ?_
        replace h := gb1_elim h; obtain ⟨v10, h11, h⟩ := h
        refine x_getR 22 h11 fl_Blocks_15 d_Blocks_lastAround_22 ?_
        refine x_iloadn 25 2 d_Blocks_lastAround_25 rfl rfl ?_
        replace h := gb1_elim h; obtain ⟨v12, h13, h⟩ := h
        refine x_iald 26 rfl h13 d_Blocks_lastAround_26 ?_
        refine x_icmp_gt 27 37 d_Blocks_lastAround_27 (by decide) (fun c14 => ?_) (fun c14 => ?_)
        · replace h := gif_t h c14
          replace h := gLet_elim h; obtain ⟨x15, ex15, h⟩ := h
          refine x_iinc 37 2 (v := x15) (lv' := [(2, .inl x15), (0, .inr (.inr p0)), (1, .inl p1)]) d_Blocks_lastAround_37 rfl (by rw [ex15]; rfl) (by decide) rfl ?_
          refine x_goto 40 2 d_Blocks_lastAround_40 (by decide) ?_
          refine x_sub [1, 2, 0] rfl ?_
          exact ih _ _ _ _ h
        · replace h := gif_f h c14
          refine x_sub [0, 2] rfl ?_
          exact hk30 _ _ _ h
def F_Blocks_lastAround (b : Nat) (a0 : Int32) (mm : gM) : Option (Int32 × gM) :=
  L_Blocks_lastAround_2 (fun p0 p2 mm =>
    gb1 (gfR 2 1 p0 mm) fun v16 =>
    gb1 (gaI 0 v16 p2 mm) fun v18 =>
    some (v18, mm)) (fun p1 mm =>
    some (p1, mm)) gF (some b) a0 (0 : Int32) mm
set_option maxHeartbeats 8000000 in
set_option maxRecDepth 100000 in
theorem w_Blocks_lastAround {l : Launch} {E : gD} {n0 s0 : Nat} {b : Nat} {a0 : Int32} {r : Int32} {mm res : gM} (h : F_Blocks_lastAround b a0 mm = some (r, res)) : xX l E Y_Blocks_lastAround n0 s0 (some (.int r)) res 0 [(0, .inr (.inr (some b))), (1, .inl a0)] [] mm := by
  unfold F_Blocks_lastAround at h
  refine x_iconst 0 d_Blocks_lastAround_0 (v := (0 : Int32)) (by decide +kernel) ?_
  refine x_istoren 1 (lv' := [(2, .inl (0 : Int32)), (0, .inr (.inr (some b))), (1, .inl a0)]) d_Blocks_lastAround_1 rfl (by decide) rfl ?_
  refine x_sub [1, 2, 0] rfl ?_
  refine wL_Blocks_lastAround_2 ?_ ?_ gF _ _ _ _ h
  · intro p0 p2 mm h
    refine x_aloadn 30 0 d_Blocks_lastAround_30 rfl rfl ?_
    replace h := gb1_elim h; obtain ⟨v16, h17, h⟩ := h
    refine x_getR 31 h17 fl_Blocks_15 d_Blocks_lastAround_31 ?_
    refine x_iloadn 34 1 d_Blocks_lastAround_34 rfl rfl ?_
    replace h := gb1_elim h; obtain ⟨v18, h19, h⟩ := h
    refine x_iald 35 rfl h19 d_Blocks_lastAround_35 ?_
    cases h
    exact x_ireturn 36 rfl d_Blocks_lastAround_36
  · intro p1 mm h
    refine x_iloadn 43 0 d_Blocks_lastAround_43 rfl rfl ?_
    cases h
    exact x_ireturn 44 rfl d_Blocks_lastAround_44
theorem k_Blocks_lastAround {b : Nat} {a0 : Int32} {r : Int32} {mm res : gM} (h : F_Blocks_lastAround b a0 mm = some (r, res)) : ∀ (l : Launch) (E : gD), gLe mm res ∧ gMet l E Y_Blocks_lastAround y_Blocks_lastAround [.inr (.inr (some b)), .inl a0] (some (.int r)) mm res :=
  fun l E => ⟨(w_Blocks_lastAround (l := l) (E := E) (n0 := 0) (s0 := 0) h).1, x_met (by decide +kernel) rfl rfl rfl (Nat.le_of_ble_eq_true rfl) (w_Blocks_lastAround h)⟩
