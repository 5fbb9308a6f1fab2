-- S_settledValue S_valueOn Current_count S_isInConflict S_countConflicts S_join M_isSet
theorem d_S_settledValue_0 : decode b_S_settledValue 0 = .ok (.aload_n 0, 1) := by decide +kernel
theorem d_S_settledValue_1 : decode b_S_settledValue 1 = .ok (.getfield 21, 3) := by decide +kernel
theorem d_S_settledValue_4 : decode b_S_settledValue 4 = .ok (.invokevirtual 45, 3) := by decide +kernel
theorem d_S_settledValue_7 : decode b_S_settledValue 7 = .ok (.iconst 1, 1) := by decide +kernel
theorem d_S_settledValue_8 : decode b_S_settledValue 8 = .ok (.isub, 1) := by decide +kernel
theorem d_S_settledValue_9 : decode b_S_settledValue 9 = .ok (.istore_n 3, 1) := by decide +kernel
theorem d_S_settledValue_10 : decode b_S_settledValue 10 = .ok (.iload_n 3, 1) := by decide +kernel
theorem d_S_settledValue_11 : decode b_S_settledValue 11 = .ok (.ifCond .lt 56, 3) := by decide +kernel
theorem d_S_settledValue_14 : decode b_S_settledValue 14 = .ok (.aload_n 0, 1) := by decide +kernel
theorem d_S_settledValue_15 : decode b_S_settledValue 15 = .ok (.getfield 21, 3) := by decide +kernel
theorem d_S_settledValue_18 : decode b_S_settledValue 18 = .ok (.iload_n 3, 1) := by decide +kernel
theorem d_S_settledValue_19 : decode b_S_settledValue 19 = .ok (.invokevirtual 208, 3) := by decide +kernel
theorem d_S_settledValue_22 : decode b_S_settledValue 22 = .ok (.checkcast 151, 3) := by decide +kernel
theorem d_S_settledValue_25 : decode b_S_settledValue 25 = .ok (.astore 4, 2) := by decide +kernel
theorem d_S_settledValue_27 : decode b_S_settledValue 27 = .ok (.aload_n 1, 1) := by decide +kernel
theorem d_S_settledValue_28 : decode b_S_settledValue 28 = .ok (.iload_n 3, 1) := by decide +kernel
theorem d_S_settledValue_29 : decode b_S_settledValue 29 = .ok (.invokevirtual 236, 3) := by decide +kernel
theorem d_S_settledValue_32 : decode b_S_settledValue 32 = .ok (.ifCond .eq 29, 3) := by decide +kernel
theorem d_S_settledValue_35 : decode b_S_settledValue 35 = .ok (.aload 4, 2) := by decide +kernel
theorem d_S_settledValue_37 : decode b_S_settledValue 37 = .ok (.iload_n 2, 1) := by decide +kernel
theorem d_S_settledValue_38 : decode b_S_settledValue 38 = .ok (.aload_n 0, 1) := by decide +kernel
theorem d_S_settledValue_39 : decode b_S_settledValue 39 = .ok (.getfield 37, 3) := by decide +kernel
theorem d_S_settledValue_42 : decode b_S_settledValue 42 = .ok (.invokevirtual 239, 3) := by decide +kernel
theorem d_S_settledValue_45 : decode b_S_settledValue 45 = .ok (.ifCond .eq 16, 3) := by decide +kernel
theorem d_S_settledValue_48 : decode b_S_settledValue 48 = .ok (.aload_n 0, 1) := by decide +kernel
theorem d_S_settledValue_49 : decode b_S_settledValue 49 = .ok (.getfield 37, 3) := by decide +kernel
theorem d_S_settledValue_52 : decode b_S_settledValue 52 = .ok (.aload 4, 2) := by decide +kernel
theorem d_S_settledValue_54 : decode b_S_settledValue 54 = .ok (.getfield 243, 3) := by decide +kernel
theorem d_S_settledValue_57 : decode b_S_settledValue 57 = .ok (.invokevirtual 246, 3) := by decide +kernel
theorem d_S_settledValue_60 : decode b_S_settledValue 60 = .ok (.lreturn, 1) := by decide +kernel
theorem d_S_settledValue_61 : decode b_S_settledValue 61 = .ok (.iinc 3 (-1), 3) := by decide +kernel
theorem d_S_settledValue_64 : decode b_S_settledValue 64 = .ok (.goto (-54), 3) := by decide +kernel
theorem d_S_settledValue_67 : decode b_S_settledValue 67 = .ok (.ldc2_w 126, 3) := by decide +kernel
theorem d_S_settledValue_70 : decode b_S_settledValue 70 = .ok (.lreturn, 1) := by decide +kernel
def L_S_settledValue_10 (k48 : Option Nat → Option Nat → gM → Option (Int64 × gM)) (k67 : gM → Option (Int64 × gM)) : Nat → Option Nat → Option Nat → Int32 → Int32 → gM → Option (Int64 × gM)
  | 0, _, _, _, _, _ => none
  | f + 1, p0, p1, p2, p3, mm =>
    if p3 < 0 then (
      k67  mm)
    else (
      gb1 (gfR 0 2 p0 mm) fun v10 =>
      gb1 (grc 9 v10 mm) fun b15 =>
      gb2 (F_AL_get b15 p3 mm) fun v12 mm13 =>
      gb1 (gcs 6 v12 mm13) fun u17 =>
      gb1 (grc 5 p1 mm13) fun b22 =>
      gb2 (F_Holding_hasSettling b22 p3 mm13) fun v19 mm20 =>
      if v19 = 0 then (
        gLet (p3 + (-1)) fun x25 =>
        L_S_settledValue_10 k48 k67 f p0 p1 p2 x25 mm20)
      else (
        gb1 (gfR 0 5 p0 mm20) fun v26 =>
        gb1 (grc 6 v12 mm20) fun b31 =>
        gb2 (F_Settling_isMadeFor b31 p2 v26 mm20) fun v28 mm29 =>
        if v28 = 0 then (
          gLet (p3 + (-1)) fun x34 =>
          L_S_settledValue_10 k48 k67 f p0 p1 p2 x34 mm29)
        else (
          k48 p0 v12 mm29)))
set_option maxHeartbeats 4000000 in
set_option maxRecDepth 100000 in
theorem wL_S_settledValue_10 {l : Launch} {E : gD} {n0 s0 : Nat} {r : Int64} {res : gM} {k48 : Option Nat → Option Nat → gM → Option (Int64 × gM)} {k67 : gM → Option (Int64 × gM)} (hk48 : ∀ (p0 : Option Nat) (p4 : Option Nat) (mm : gM), k48 p0 p4 mm = some (r, res) → xX l E Y_S_settledValue n0 s0 (some (.long r)) res 48 [(0, .inr (.inr p0)), (4, .inr (.inr p4))] [] mm) (hk67 : ∀  (mm : gM), k67  mm = some (r, res) → xX l E Y_S_settledValue n0 s0 (some (.long r)) res 67 [] [] mm) : ∀ (f : Nat) (p0 : Option Nat) (p1 : Option Nat) (p2 : Int32) (p3 : Int32) (mm : gM), L_S_settledValue_10 k48 k67 f p0 p1 p2 p3 mm = some (r, res) → xX l E Y_S_settledValue n0 s0 (some (.long r)) res 10 [(0, .inr (.inr p0)), (1, .inr (.inr p1)), (2, .inl p2), (3, .inl p3)] [] mm := by
  intro f
  induction f with
  | zero =>
    intro p0 p1 p2 p3 mm h
    rw [L_S_settledValue_10] at h
    cases h
  | succ f ih =>
    intro p0 p1 p2 p3 mm h
    rw [L_S_settledValue_10] at h
    refine x_iloadn 10 3 d_S_settledValue_10 rfl rfl ?_
    refine x_if_lt 11 67 d_S_settledValue_11 (by decide) (fun c9 => ?_) (fun c9 => ?_)
    · replace h := gif_t h c9
      refine x_sub [] rfl ?_
      exact hk67 _ h
    · replace h := gif_f h c9
      refine x_aloadn 14 0 d_S_settledValue_14 rfl rfl ?_
      replace h := gb1_elim h; obtain ⟨v10, h11, h⟩ := h
      refine x_getR 15 h11 fl_S_21 d_S_settledValue_15 ?_
      refine x_iloadn 18 3 d_S_settledValue_18 rfl rfl ?_
      replace h := gb1_elim h; obtain ⟨b15, h16, h⟩ := h
      replace h := gb2_elim h; obtain ⟨v12, mm13, h14, h⟩ := h
      refine x_callV 19 1 (as := [.inl p3]) (st' := []) (rs := [.inr (.inr v12)]) (k_AL_get h14) rfl cf_S_208 ⟨rfl, by decide +kernel, by decide, by decide, Nat.le_of_ble_eq_true rfl⟩ h16 rfl d_S_settledValue_19 ?_
      replace h := gb1_elim h; obtain ⟨u17, h18, h⟩ := h
      refine x_cast 22 h18 (show gCl[6]? = some (R_Settling, T_Settling, 3) from rfl) (gT_in2 37 rfl) d_S_settledValue_22 ?_
      refine x_astore 25 (lv' := [(4, .inr (.inr v12)), (0, .inr (.inr p0)), (1, .inr (.inr p1)), (2, .inl p2), (3, .inl p3)]) d_S_settledValue_25 (by decide) rfl ?_
      refine x_aloadn 27 2 d_S_settledValue_27 rfl rfl ?_
      refine x_iloadn 28 4 d_S_settledValue_28 rfl rfl ?_
      replace h := gb1_elim h; obtain ⟨b22, h23, h⟩ := h
      replace h := gb2_elim h; obtain ⟨v19, mm20, h21, h⟩ := h
      refine x_callV 29 1 (as := [.inl p3]) (st' := []) (rs := [.inl v19]) (k_Holding_hasSettling h21) rfl cf_S_236 ⟨rfl, by decide +kernel, by decide, by decide, Nat.le_of_ble_eq_true rfl⟩ h23 rfl d_S_settledValue_29 ?_
      refine x_if_eq 32 61 d_S_settledValue_32 (by decide) (fun c24 => ?_) (fun c24 => ?_)
      · replace h := gif_t h c24
        replace h := gLet_elim h; obtain ⟨x25, ex25, h⟩ := h
        refine x_iinc 61 4 (v := x25) (lv' := [(3, .inl x25), (4, .inr (.inr v12)), (0, .inr (.inr p0)), (1, .inr (.inr p1)), (2, .inl p2)]) d_S_settledValue_61 rfl (by rw [ex25]; rfl) (by decide) rfl ?_
        refine x_goto 64 10 d_S_settledValue_64 (by decide) ?_
        refine x_sub [2, 3, 4, 0] rfl ?_
        exact ih _ _ _ _ _ h
      · replace h := gif_f h c24
        refine x_aload 35 0 d_S_settledValue_35 rfl ?_
        refine x_iloadn 37 3 d_S_settledValue_37 rfl rfl ?_
        refine x_aloadn 38 1 d_S_settledValue_38 rfl rfl ?_
        replace h := gb1_elim h; obtain ⟨v26, h27, h⟩ := h
        refine x_getR 39 h27 fl_S_37 d_S_settledValue_39 ?_
        replace h := gb1_elim h; obtain ⟨b31, h32, h⟩ := h
        replace h := gb2_elim h; obtain ⟨v28, mm29, h30, h⟩ := h
        refine x_callV 42 2 (as := [.inl p2, .inr (.inr v26)]) (st' := []) (rs := [.inl v28]) (k_Settling_isMadeFor h30) rfl cf_S_239 ⟨rfl, by decide +kernel, by decide, by decide, Nat.le_of_ble_eq_true rfl⟩ h32 rfl d_S_settledValue_42 ?_
        refine x_if_eq 45 61 d_S_settledValue_45 (by decide) (fun c33 => ?_) (fun c33 => ?_)
        · replace h := gif_t h c33
          replace h := gLet_elim h; obtain ⟨x34, ex34, h⟩ := h
          refine x_iinc 61 4 (v := x34) (lv' := [(3, .inl x34), (4, .inr (.inr v12)), (0, .inr (.inr p0)), (1, .inr (.inr p1)), (2, .inl p2)]) d_S_settledValue_61 rfl (by rw [ex34]; rfl) (by decide) rfl ?_
          refine x_goto 64 10 d_S_settledValue_64 (by decide) ?_
          refine x_sub [2, 3, 4, 0] rfl ?_
          exact ih _ _ _ _ _ h
        · replace h := gif_f h c33
          refine x_sub [1, 0] rfl ?_
          exact hk48 _ _ _ h
def F_S_settledValue (b : Nat) (a0 : Option Nat) (a1 : Int32) (mm : gM) : Option (Int64 × gM) :=
  gb1 (gfR 0 2 (some b) mm) fun v1 =>
  gb1 (grc 9 v1 mm) fun b6 =>
  gb2 (F_AL_size b6  mm) fun v3 mm4 =>
  gLet (v3 - (1 : Int32)) fun x8 =>
  L_S_settledValue_10 (fun p0 p4 mm =>
    gb1 (gfR 0 5 p0 mm) fun v35 =>
    gb1 (gfI 6 1 p4 mm) fun v37 =>
    gb1 (grc 8 v35 mm) fun b42 =>
    gb2 (F_Current_valueBy b42 v37 mm) fun v39 mm40 =>
    some (v39, mm40)) (fun  mm =>
    some ((-9223372036854775808 : Int64), mm)) gF (some b) a0 a1 x8 mm4
set_option maxHeartbeats 8000000 in
set_option maxRecDepth 100000 in
theorem w_S_settledValue {l : Launch} {E : gD} {n0 s0 : Nat} {b : Nat} {a0 : Option Nat} {a1 : Int32} {r : Int64} {mm res : gM} (h : F_S_settledValue b a0 a1 mm = some (r, res)) : xX l E Y_S_settledValue n0 s0 (some (.long r)) res 0 [(0, .inr (.inr (some b))), (1, .inr (.inr a0)), (2, .inl a1)] [] mm := by
  unfold F_S_settledValue at h
  refine x_aloadn 0 0 d_S_settledValue_0 rfl rfl ?_
  replace h := gb1_elim h; obtain ⟨v1, h2, h⟩ := h
  refine x_getR 1 h2 fl_S_21 d_S_settledValue_1 ?_
  replace h := gb1_elim h; obtain ⟨b6, h7, h⟩ := h
  replace h := gb2_elim h; obtain ⟨v3, mm4, h5, h⟩ := h
  refine x_callV 4 0 (as := []) (st' := []) (rs := [.inl v3]) (k_AL_size h5) rfl cf_S_45 ⟨rfl, by decide +kernel, by decide, by decide, Nat.le_of_ble_eq_true rfl⟩ h7 rfl d_S_settledValue_4 ?_
  refine x_iconst 7 d_S_settledValue_7 (v := (1 : Int32)) (by decide +kernel) ?_
  refine x_isub 8 d_S_settledValue_8 ?_
  replace h := gLet_elim h; obtain ⟨x8, ex8, h⟩ := h
  refine x_topi ex8 ?_
  refine x_istoren 9 (lv' := [(3, .inl x8), (0, .inr (.inr (some b))), (1, .inr (.inr a0)), (2, .inl a1)]) d_S_settledValue_9 rfl (by decide) rfl ?_
  refine x_sub [1, 2, 3, 0] rfl ?_
  refine wL_S_settledValue_10 ?_ ?_ gF _ _ _ _ _ h
  · intro p0 p4 mm h
    refine x_aloadn 48 0 d_S_settledValue_48 rfl rfl ?_
    replace h := gb1_elim h; obtain ⟨v35, h36, h⟩ := h
    refine x_getR 49 h36 fl_S_37 d_S_settledValue_49 ?_
    refine x_aload 52 1 d_S_settledValue_52 rfl ?_
    replace h := gb1_elim h; obtain ⟨v37, h38, h⟩ := h
    refine x_getI 54 h38 fl_S_243 d_S_settledValue_54 ?_
    replace h := gb1_elim h; obtain ⟨b42, h43, h⟩ := h
    replace h := gb2_elim h; obtain ⟨v39, mm40, h41, h⟩ := h
    refine x_callV 57 1 (as := [.inl v37]) (st' := []) (rs := [.inr (.inl v39)]) (k_Current_valueBy h41) rfl cf_S_246 ⟨rfl, by decide +kernel, by decide, by decide, Nat.le_of_ble_eq_true rfl⟩ h43 rfl d_S_settledValue_57 ?_
    cases h
    exact x_lreturn 60 rfl d_S_settledValue_60
  · intro  mm h
    refine x_ldc2 67 d_S_settledValue_67 (v := (-9223372036854775808 : Int64)) (gT_in2 33 rfl) ?_
    cases h
    exact x_lreturn 70 rfl d_S_settledValue_70
theorem k_S_settledValue {b : Nat} {a0 : Option Nat} {a1 : Int32} {r : Int64} {mm res : gM} (h : F_S_settledValue b a0 a1 mm = some (r, res)) : ∀ (l : Launch) (E : gD), gLe mm res ∧ gMet l E Y_S_settledValue y_S_settledValue [.inr (.inr (some b)), .inr (.inr a0), .inl a1] (some (.long r)) mm res :=
  fun l E => ⟨(w_S_settledValue (l := l) (E := E) (n0 := 0) (s0 := 0) h).1, x_met (by decide +kernel) rfl rfl rfl (Nat.le_of_ble_eq_true rfl) (w_S_settledValue h)⟩
theorem d_S_valueOn_0 : decode b_S_valueOn 0 = .ok (.aload_n 0, 1) := by decide +kernel
theorem d_S_valueOn_1 : decode b_S_valueOn 1 = .ok (.aload_n 1, 1) := by decide +kernel
theorem d_S_valueOn_2 : decode b_S_valueOn 2 = .ok (.iload_n 2, 1) := by decide +kernel
theorem d_S_valueOn_3 : decode b_S_valueOn 3 = .ok (.iload_n 3, 1) := by decide +kernel
theorem d_S_valueOn_4 : decode b_S_valueOn 4 = .ok (.invokevirtual 137, 3) := by decide +kernel
theorem d_S_valueOn_7 : decode b_S_valueOn 7 = .ok (.aload_n 0, 1) := by decide +kernel
theorem d_S_valueOn_8 : decode b_S_valueOn 8 = .ok (.getfield 37, 3) := by decide +kernel
theorem d_S_valueOn_11 : decode b_S_valueOn 11 = .ok (.invokevirtual 228, 3) := by decide +kernel
theorem d_S_valueOn_14 : decode b_S_valueOn 14 = .ok (.lstore 4, 2) := by decide +kernel
theorem d_S_valueOn_16 : decode b_S_valueOn 16 = .ok (.lload 4, 2) := by decide +kernel
theorem d_S_valueOn_18 : decode b_S_valueOn 18 = .ok (.ldc2_w 126, 3) := by decide +kernel
theorem d_S_valueOn_21 : decode b_S_valueOn 21 = .ok (.lcmp, 1) := by decide +kernel
theorem d_S_valueOn_22 : decode b_S_valueOn 22 = .ok (.ifCond .eq 8, 3) := by decide +kernel
theorem d_S_valueOn_25 : decode b_S_valueOn 25 = .ok (.lload 4, 2) := by decide +kernel
theorem d_S_valueOn_27 : decode b_S_valueOn 27 = .ok (.goto 9, 3) := by decide +kernel
theorem d_S_valueOn_30 : decode b_S_valueOn 30 = .ok (.aload_n 0, 1) := by decide +kernel
theorem d_S_valueOn_31 : decode b_S_valueOn 31 = .ok (.aload_n 1, 1) := by decide +kernel
theorem d_S_valueOn_32 : decode b_S_valueOn 32 = .ok (.iload_n 2, 1) := by decide +kernel
theorem d_S_valueOn_33 : decode b_S_valueOn 33 = .ok (.invokevirtual 232, 3) := by decide +kernel
theorem d_S_valueOn_36 : decode b_S_valueOn 36 = .ok (.lreturn, 1) := by decide +kernel
def F_S_valueOn (b : Nat) (a0 : Option Nat) (a1 : Int32) (a2 : Int32) (mm : gM) : Option (Int64 × gM) :=
  gb1 (grc 0 (some b) mm) fun b4 =>
  gb2 (F_S_findCurrent b4 a0 a1 a2 mm) fun v1 mm2 =>
  gb1 (gfR 0 5 (some b) mm2) fun v6 =>
  gb1 (grc 8 v6 mm2) fun b11 =>
  gb2 (F_Current_commonValue b11  mm2) fun v8 mm9 =>
  if v8 = (-9223372036854775808 : Int64) then (
    gb1 (grc 0 (some b) mm9) fun b17 =>
    gb2 (F_S_settledValue b17 a0 a1 mm9) fun v14 mm15 =>
    some (v14, mm15))
  else (
    some (v8, mm9))
set_option maxHeartbeats 8000000 in
set_option maxRecDepth 100000 in
theorem w_S_valueOn {l : Launch} {E : gD} {n0 s0 : Nat} {b : Nat} {a0 : Option Nat} {a1 : Int32} {a2 : Int32} {r : Int64} {mm res : gM} (h : F_S_valueOn b a0 a1 a2 mm = some (r, res)) : xX l E Y_S_valueOn n0 s0 (some (.long r)) res 0 [(0, .inr (.inr (some b))), (1, .inr (.inr a0)), (2, .inl a1), (3, .inl a2)] [] mm := by
  unfold F_S_valueOn at h
  refine x_aloadn 0 0 d_S_valueOn_0 rfl rfl ?_
  refine x_aloadn 1 1 d_S_valueOn_1 rfl rfl ?_
  refine x_iloadn 2 2 d_S_valueOn_2 rfl rfl ?_
  refine x_iloadn 3 3 d_S_valueOn_3 rfl rfl ?_
  replace h := gb1_elim h; obtain ⟨b4, h5, h⟩ := h
  replace h := gb2_elim h; obtain ⟨v1, mm2, h3, h⟩ := h
  refine x_callV 4 3 (as := [.inr (.inr a0), .inl a1, .inl a2]) (st' := []) (rs := []) (k_S_findCurrent h3) rfl cf_S_137 ⟨rfl, by decide +kernel, by decide, by decide, Nat.le_of_ble_eq_true rfl⟩ h5 rfl d_S_valueOn_4 ?_
  refine x_aloadn 7 0 d_S_valueOn_7 rfl rfl ?_
  replace h := gb1_elim h; obtain ⟨v6, h7, h⟩ := h
  refine x_getR 8 h7 fl_S_37 d_S_valueOn_8 ?_
  replace h := gb1_elim h; obtain ⟨b11, h12, h⟩ := h
  replace h := gb2_elim h; obtain ⟨v8, mm9, h10, h⟩ := h
  refine x_callV 11 0 (as := []) (st' := []) (rs := [.inr (.inl v8)]) (k_Current_commonValue h10) rfl cf_S_228 ⟨rfl, by decide +kernel, by decide, by decide, Nat.le_of_ble_eq_true rfl⟩ h12 rfl d_S_valueOn_11 ?_
  refine x_lstore 14 (lv' := [(4, .inr (.inl v8)), (0, .inr (.inr (some b))), (1, .inr (.inr a0)), (2, .inl a1), (3, .inl a2)]) d_S_valueOn_14 (by decide) rfl ?_
  refine x_lload 16 0 d_S_valueOn_16 rfl ?_
  refine x_ldc2 18 d_S_valueOn_18 (v := (-9223372036854775808 : Int64)) (gT_in2 33 rfl) ?_
  refine x_lc_eq 21 30 d_S_valueOn_21 d_S_valueOn_22 (by decide) (fun c13 => ?_) (fun c13 => ?_)
  · replace h := gif_t h c13
    refine x_aloadn 30 1 d_S_valueOn_30 rfl rfl ?_
    refine x_aloadn 31 2 d_S_valueOn_31 rfl rfl ?_
    refine x_iloadn 32 3 d_S_valueOn_32 rfl rfl ?_
    replace h := gb1_elim h; obtain ⟨b17, h18, h⟩ := h
    replace h := gb2_elim h; obtain ⟨v14, mm15, h16, h⟩ := h
    refine x_callV 33 2 (as := [.inr (.inr a0), .inl a1]) (st' := []) (rs := [.inr (.inl v14)]) (k_S_settledValue h16) rfl cf_S_232 ⟨rfl, by decide +kernel, by decide, by decide, Nat.le_of_ble_eq_true rfl⟩ h18 rfl d_S_valueOn_33 ?_
    cases h
    exact x_lreturn 36 rfl d_S_valueOn_36
  · replace h := gif_f h c13
    refine x_lload 25 0 d_S_valueOn_25 rfl ?_
    refine x_goto 27 36 d_S_valueOn_27 (by decide) ?_
    cases h
    exact x_lreturn 36 rfl d_S_valueOn_36
theorem k_S_valueOn {b : Nat} {a0 : Option Nat} {a1 : Int32} {a2 : Int32} {r : Int64} {mm res : gM} (h : F_S_valueOn b a0 a1 a2 mm = some (r, res)) : ∀ (l : Launch) (E : gD), gLe mm res ∧ gMet l E Y_S_valueOn y_S_valueOn [.inr (.inr (some b)), .inr (.inr a0), .inl a1, .inl a2] (some (.long r)) mm res :=
  fun l E => ⟨(w_S_valueOn (l := l) (E := E) (n0 := 0) (s0 := 0) h).1, x_met (by decide +kernel) rfl rfl rfl (Nat.le_of_ble_eq_true rfl) (w_S_valueOn h)⟩
theorem d_Current_count_0 : decode b_Current_count 0 = .ok (.iconst 0, 1) := by decide +kernel
theorem d_Current_count_1 : decode b_Current_count 1 = .ok (.istore_n 1, 1) := by decide +kernel
theorem d_Current_count_2 : decode b_Current_count 2 = .ok (.iconst 0, 1) := by decide +kernel
theorem d_Current_count_3 : decode b_Current_count 3 = .ok (.istore_n 2, 1) := by decide +kernel
theorem d_Current_count_4 : decode b_Current_count 4 = .ok (.iload_n 2, 1) := by decide +kernel
theorem d_Current_count_5 : decode b_Current_count 5 = .ok (.bipush 8, 2) := by decide +kernel
theorem d_Current_count_7 : decode b_Current_count 7 = .ok (.if_icmp .ge 20, 3) := by decide +kernel
theorem d_Current_count_10 : decode b_Current_count 10 = .ok (.aload_n 0, 1) := by decide +kernel
theorem d_Current_count_11 : decode b_Current_count 11 = .ok (.iload_n 2, 1) := by decide +kernel
theorem d_Current_count_12 : decode b_Current_count 12 = .ok (.invokevirtual 38, 3) := by decide +kernel
theorem d_Current_count_15 : decode b_Current_count 15 = .ok (.ifCond .eq 6, 3) := by decide +kernel
theorem d_Current_count_18 : decode b_Current_count 18 = .ok (.iinc 1 1, 3) := by decide +kernel
theorem d_Current_count_21 : decode b_Current_count 21 = .ok (.iinc 2 1, 3) := by decide +kernel
theorem d_Current_count_24 : decode b_Current_count 24 = .ok (.goto (-20), 3) := by decide +kernel
theorem d_Current_count_27 : decode b_Current_count 27 = .ok (.iload_n 1, 1) := by decide +kernel
theorem d_Current_count_28 : decode b_Current_count 28 = .ok (.ireturn, 1) := by decide +kernel
def L_Current_count_4 (k27 : Int32 → gM → Option (Int32 × gM)) : Nat → Option Nat → Int32 → Int32 → gM → Option (Int32 × gM)
  | 0, _, _, _, _ => none
  | f + 1, p0, p1, p2, mm =>
    if (8 : Int32) ≤ p2 then (
      k27 p1 mm)
    else (
      gb1 (grc 8 p0 mm) fun b5 =>
      gb2 (F_Current_has b5 p2 mm) fun v2 mm3 =>
      if v2 = 0 then (
        gLet (p2 + 1) fun x8 =>
        L_Current_count_4 k27 f p0 p1 x8 mm3)
      else (
        gLet (p1 + 1) fun x9 =>
        gLet (p2 + 1) fun x10 =>
        L_Current_count_4 k27 f p0 x9 x10 mm3))
set_option maxHeartbeats 4000000 in
set_option maxRecDepth 100000 in
theorem wL_Current_count_4 {l : Launch} {E : gD} {n0 s0 : Nat} {r : Int32} {res : gM} {k27 : Int32 → gM → Option (Int32 × gM)} (hk27 : ∀ (p1 : Int32) (mm : gM), k27 p1 mm = some (r, res) → xX l E Y_Current_count n0 s0 (some (.int r)) res 27 [(1, .inl p1)] [] mm) : ∀ (f : Nat) (p0 : Option Nat) (p1 : Int32) (p2 : Int32) (mm : gM), L_Current_count_4 k27 f p0 p1 p2 mm = some (r, res) → xX l E Y_Current_count n0 s0 (some (.int r)) res 4 [(0, .inr (.inr p0)), (1, .inl p1), (2, .inl p2)] [] mm := by
  intro f
  induction f with
  | zero =>
    intro p0 p1 p2 mm h
    rw [L_Current_count_4] at h
    cases h
  | succ f ih =>
    intro p0 p1 p2 mm h
    rw [L_Current_count_4] at h
    refine x_iloadn 4 2 d_Current_count_4 rfl rfl ?_
    refine x_bipush 5 d_Current_count_5 (v := (8 : Int32)) (by decide +kernel) ?_
    refine x_icmp_ge 7 27 d_Current_count_7 (by decide) (fun c1 => ?_) (fun c1 => ?_)
    · replace h := gif_t h c1
      refine x_sub [1] rfl ?_
      exact hk27 _ _ h
    · replace h := gif_f h c1
      refine x_aloadn 10 0 d_Current_count_10 rfl rfl ?_
      refine x_iloadn 11 2 d_Current_count_11 rfl rfl ?_
      replace h := gb1_elim h; obtain ⟨b5, h6, h⟩ := h
      replace h := gb2_elim h; obtain ⟨v2, mm3, h4, h⟩ := h
      refine x_callV 12 1 (as := [.inl p2]) (st' := []) (rs := [.inl v2]) (k_Current_has h4) rfl cf_Current_38 ⟨rfl, by decide +kernel, by decide, by decide, Nat.le_of_ble_eq_true rfl⟩ h6 rfl d_Current_count_12 ?_
      refine x_if_eq 15 21 d_Current_count_15 (by decide) (fun c7 => ?_) (fun c7 => ?_)
      · replace h := gif_t h c7
        replace h := gLet_elim h; obtain ⟨x8, ex8, h⟩ := h
        refine x_iinc 21 2 (v := x8) (lv' := [(2, .inl x8), (0, .inr (.inr p0)), (1, .inl p1)]) d_Current_count_21 rfl (by rw [ex8]; rfl) (by decide) rfl ?_
        refine x_goto 24 4 d_Current_count_24 (by decide) ?_
        refine x_sub [1, 2, 0] rfl ?_
        exact ih _ _ _ _ h
      · replace h := gif_f h c7
        replace h := gLet_elim h; obtain ⟨x9, ex9, h⟩ := h
        refine x_iinc 18 1 (v := x9) (lv' := [(1, .inl x9), (0, .inr (.inr p0)), (2, .inl p2)]) d_Current_count_18 rfl (by rw [ex9]; rfl) (by decide) rfl ?_
        replace h := gLet_elim h; obtain ⟨x10, ex10, h⟩ := h
        refine x_iinc 21 2 (v := x10) (lv' := [(2, .inl x10), (1, .inl x9), (0, .inr (.inr p0))]) d_Current_count_21 rfl (by rw [ex10]; rfl) (by decide) rfl ?_
        refine x_goto 24 4 d_Current_count_24 (by decide) ?_
        refine x_sub [2, 1, 0] rfl ?_
        exact ih _ _ _ _ h
def F_Current_count (b : Nat) (mm : gM) : Option (Int32 × gM) :=
  L_Current_count_4 (fun p1 mm =>
    some (p1, mm)) gF (some b) (0 : Int32) (0 : Int32) mm
set_option maxHeartbeats 8000000 in
set_option maxRecDepth 100000 in
theorem w_Current_count {l : Launch} {E : gD} {n0 s0 : Nat} {b : Nat} {r : Int32} {mm res : gM} (h : F_Current_count b mm = some (r, res)) : xX l E Y_Current_count n0 s0 (some (.int r)) res 0 [(0, .inr (.inr (some b)))] [] mm := by
  unfold F_Current_count at h
  refine x_iconst 0 d_Current_count_0 (v := (0 : Int32)) (by decide +kernel) ?_
  refine x_istoren 1 (lv' := [(1, .inl (0 : Int32)), (0, .inr (.inr (some b)))]) d_Current_count_1 rfl (by decide) rfl ?_
  refine x_iconst 2 d_Current_count_2 (v := (0 : Int32)) (by decide +kernel) ?_
  refine x_istoren 3 (lv' := [(2, .inl (0 : Int32)), (1, .inl (0 : Int32)), (0, .inr (.inr (some b)))]) d_Current_count_3 rfl (by decide) rfl ?_
  refine x_sub [2, 1, 0] rfl ?_
  refine wL_Current_count_4 ?_ gF _ _ _ _ h
  · intro p1 mm h
    refine x_iloadn 27 0 d_Current_count_27 rfl rfl ?_
    cases h
    exact x_ireturn 28 rfl d_Current_count_28
theorem k_Current_count {b : Nat} {r : Int32} {mm res : gM} (h : F_Current_count b mm = some (r, res)) : ∀ (l : Launch) (E : gD), gLe mm res ∧ gMet l E Y_Current_count y_Current_count [.inr (.inr (some b))] (some (.int r)) mm res :=
  fun l E => ⟨(w_Current_count (l := l) (E := E) (n0 := 0) (s0 := 0) h).1, x_met (by decide +kernel) rfl rfl rfl (Nat.le_of_ble_eq_true rfl) (w_Current_count h)⟩
theorem d_S_isInConflict_0 : decode b_S_isInConflict 0 = .ok (.aload_n 0, 1) := by decide +kernel
theorem d_S_isInConflict_1 : decode b_S_isInConflict 1 = .ok (.aload_n 1, 1) := by decide +kernel
theorem d_S_isInConflict_2 : decode b_S_isInConflict 2 = .ok (.iload_n 2, 1) := by decide +kernel
theorem d_S_isInConflict_3 : decode b_S_isInConflict 3 = .ok (.ldc 136, 2) := by decide +kernel
theorem d_S_isInConflict_5 : decode b_S_isInConflict 5 = .ok (.invokevirtual 128, 3) := by decide +kernel
theorem d_S_isInConflict_8 : decode b_S_isInConflict 8 = .ok (.lstore_n 3, 1) := by decide +kernel
theorem d_S_isInConflict_9 : decode b_S_isInConflict 9 = .ok (.lload_n 3, 1) := by decide +kernel
theorem d_S_isInConflict_10 : decode b_S_isInConflict 10 = .ok (.ldc2_w 126, 3) := by decide +kernel
theorem d_S_isInConflict_13 : decode b_S_isInConflict 13 = .ok (.lcmp, 1) := by decide +kernel
theorem d_S_isInConflict_14 : decode b_S_isInConflict 14 = .ok (.ifCond .ne 17, 3) := by decide +kernel
theorem d_S_isInConflict_17 : decode b_S_isInConflict 17 = .ok (.aload_n 0, 1) := by decide +kernel
theorem d_S_isInConflict_18 : decode b_S_isInConflict 18 = .ok (.getfield 37, 3) := by decide +kernel
theorem d_S_isInConflict_21 : decode b_S_isInConflict 21 = .ok (.invokevirtual 141, 3) := by decide +kernel
theorem d_S_isInConflict_24 : decode b_S_isInConflict 24 = .ok (.ifCond .le 7, 3) := by decide +kernel
theorem d_S_isInConflict_27 : decode b_S_isInConflict 27 = .ok (.iconst 1, 1) := by decide +kernel
theorem d_S_isInConflict_28 : decode b_S_isInConflict 28 = .ok (.goto 4, 3) := by decide +kernel
theorem d_S_isInConflict_31 : decode b_S_isInConflict 31 = .ok (.iconst 0, 1) := by decide +kernel
theorem d_S_isInConflict_32 : decode b_S_isInConflict 32 = .ok (.ireturn, 1) := by decide +kernel
def F_S_isInConflict (b : Nat) (a0 : Option Nat) (a1 : Int32) (mm : gM) : Option (Int32 × gM) :=
  gb1 (grc 0 (some b) mm) fun b4 =>
  gb2 (F_S_valueOn b4 a0 a1 (100000 : Int32) mm) fun v1 mm2 =>
  if v1 = (-9223372036854775808 : Int64) then (
    gb1 (gfR 0 5 (some b) mm2) fun v7 =>
    gb1 (grc 8 v7 mm2) fun b12 =>
    gb2 (F_Current_count b12  mm2) fun v9 mm10 =>
    if v9 ≤ 0 then (
      some ((0 : Int32), mm10))
    else (
      some ((1 : Int32), mm10)))
  else (
    some ((0 : Int32), mm2))
set_option maxHeartbeats 8000000 in
set_option maxRecDepth 100000 in
theorem w_S_isInConflict {l : Launch} {E : gD} {n0 s0 : Nat} {b : Nat} {a0 : Option Nat} {a1 : Int32} {r : Int32} {mm res : gM} (h : F_S_isInConflict b a0 a1 mm = some (r, res)) : xX l E Y_S_isInConflict n0 s0 (some (.int r)) res 0 [(0, .inr (.inr (some b))), (1, .inr (.inr a0)), (2, .inl a1)] [] mm := by
  unfold F_S_isInConflict at h
  refine x_aloadn 0 0 d_S_isInConflict_0 rfl rfl ?_
  refine x_aloadn 1 1 d_S_isInConflict_1 rfl rfl ?_
  refine x_iloadn 2 2 d_S_isInConflict_2 rfl rfl ?_
  refine x_ldc 3 d_S_isInConflict_3 (v := (100000 : Int32)) (gT_in1 65 rfl) ?_
  replace h := gb1_elim h; obtain ⟨b4, h5, h⟩ := h
  replace h := gb2_elim h; obtain ⟨v1, mm2, h3, h⟩ := h
  refine x_callV 5 3 (as := [.inr (.inr a0), .inl a1, .inl (100000 : Int32)]) (st' := []) (rs := [.inr (.inl v1)]) (k_S_valueOn h3) rfl cf_S_128 ⟨rfl, by decide +kernel, by decide, by decide, Nat.le_of_ble_eq_true rfl⟩ h5 rfl d_S_isInConflict_5 ?_
  refine x_lstoren 8 (lv' := [(3, .inr (.inl v1)), (0, .inr (.inr (some b))), (1, .inr (.inr a0)), (2, .inl a1)]) d_S_isInConflict_8 rfl (by decide) rfl ?_
  refine x_lloadn 9 0 d_S_isInConflict_9 rfl rfl ?_
  refine x_ldc2 10 d_S_isInConflict_10 (v := (-9223372036854775808 : Int64)) (gT_in2 33 rfl) ?_
  refine x_lc_ne 13 31 d_S_isInConflict_13 d_S_isInConflict_14 (by decide) (fun c6 => ?_) (fun c6 => ?_)
  · replace h := gif_t h c6
    refine x_aloadn 17 1 d_S_isInConflict_17 rfl rfl ?_
    replace h := gb1_elim h; obtain ⟨v7, h8, h⟩ := h
    refine x_getR 18 h8 fl_S_37 d_S_isInConflict_18 ?_
    replace h := gb1_elim h; obtain ⟨b12, h13, h⟩ := h
    replace h := gb2_elim h; obtain ⟨v9, mm10, h11, h⟩ := h
    refine x_callV 21 0 (as := []) (st' := []) (rs := [.inl v9]) (k_Current_count h11) rfl cf_S_141 ⟨rfl, by decide +kernel, by decide, by decide, Nat.le_of_ble_eq_true rfl⟩ h13 rfl d_S_isInConflict_21 ?_
    refine x_if_le 24 31 d_S_isInConflict_24 (by decide) (fun c14 => ?_) (fun c14 => ?_)
    · replace h := gif_t h c14
      refine x_iconst 31 d_S_isInConflict_31 (v := (0 : Int32)) (by decide +kernel) ?_
      cases h
      exact x_zreturn 32 (by decide) rfl d_S_isInConflict_32
    · replace h := gif_f h c14
      refine x_iconst 27 d_S_isInConflict_27 (v := (1 : Int32)) (by decide +kernel) ?_
      refine x_goto 28 32 d_S_isInConflict_28 (by decide) ?_
      cases h
      exact x_zreturn 32 (by decide) rfl d_S_isInConflict_32
  · replace h := gif_f h c6
    refine x_iconst 31 d_S_isInConflict_31 (v := (0 : Int32)) (by decide +kernel) ?_
    cases h
    exact x_zreturn 32 (by decide) rfl d_S_isInConflict_32
theorem k_S_isInConflict {b : Nat} {a0 : Option Nat} {a1 : Int32} {r : Int32} {mm res : gM} (h : F_S_isInConflict b a0 a1 mm = some (r, res)) : ∀ (l : Launch) (E : gD), gLe mm res ∧ gMet l E Y_S_isInConflict y_S_isInConflict [.inr (.inr (some b)), .inr (.inr a0), .inl a1] (some (.int r)) mm res :=
  fun l E => ⟨(w_S_isInConflict (l := l) (E := E) (n0 := 0) (s0 := 0) h).1, x_met (by decide +kernel) rfl rfl rfl (Nat.le_of_ble_eq_true rfl) (w_S_isInConflict h)⟩
theorem d_S_countConflicts_0 : decode b_S_countConflicts 0 = .ok (.iconst 0, 1) := by decide +kernel
theorem d_S_countConflicts_1 : decode b_S_countConflicts 1 = .ok (.istore_n 2, 1) := by decide +kernel
theorem d_S_countConflicts_2 : decode b_S_countConflicts 2 = .ok (.iconst 0, 1) := by decide +kernel
theorem d_S_countConflicts_3 : decode b_S_countConflicts 3 = .ok (.istore_n 3, 1) := by decide +kernel
theorem d_S_countConflicts_4 : decode b_S_countConflicts 4 = .ok (.iload_n 3, 1) := by decide +kernel
theorem d_S_countConflicts_5 : decode b_S_countConflicts 5 = .ok (.sipush 128, 3) := by decide +kernel
theorem d_S_countConflicts_8 : decode b_S_countConflicts 8 = .ok (.if_icmp .ge 21, 3) := by decide +kernel
theorem d_S_countConflicts_11 : decode b_S_countConflicts 11 = .ok (.aload_n 0, 1) := by decide +kernel
theorem d_S_countConflicts_12 : decode b_S_countConflicts 12 = .ok (.aload_n 1, 1) := by decide +kernel
theorem d_S_countConflicts_13 : decode b_S_countConflicts 13 = .ok (.iload_n 3, 1) := by decide +kernel
theorem d_S_countConflicts_14 : decode b_S_countConflicts 14 = .ok (.invokevirtual 250, 3) := by decide +kernel
theorem d_S_countConflicts_17 : decode b_S_countConflicts 17 = .ok (.ifCond .eq 6, 3) := by decide +kernel
theorem d_S_countConflicts_20 : decode b_S_countConflicts 20 = .ok (.iinc 2 1, 3) := by decide +kernel
theorem d_S_countConflicts_23 : decode b_S_countConflicts 23 = .ok (.iinc 3 1, 3) := by decide +kernel
theorem d_S_countConflicts_26 : decode b_S_countConflicts 26 = .ok (.goto (-22), 3) := by decide +kernel
theorem d_S_countConflicts_29 : decode b_S_countConflicts 29 = .ok (.iload_n 2, 1) := by decide +kernel
theorem d_S_countConflicts_30 : decode b_S_countConflicts 30 = .ok (.ireturn, 1) := by decide +kernel
def L_S_countConflicts_4 (k29 : Int32 → gM → Option (Int32 × gM)) : Nat → Option Nat → Option Nat → Int32 → Int32 → gM → Option (Int32 × gM)
  | 0, _, _, _, _, _ => none
  | f + 1, p0, p1, p2, p3, mm =>
    if (128 : Int32) ≤ p3 then (
      k29 p2 mm)
    else (
      gb1 (grc 0 p0 mm) fun b5 =>
      gb2 (F_S_isInConflict b5 p1 p3 mm) fun v2 mm3 =>
      if v2 = 0 then (
        gLet (p3 + 1) fun x8 =>
        L_S_countConflicts_4 k29 f p0 p1 p2 x8 mm3)
      else (
        gLet (p2 + 1) fun x9 =>
        gLet (p3 + 1) fun x10 =>
        L_S_countConflicts_4 k29 f p0 p1 x9 x10 mm3))
set_option maxHeartbeats 4000000 in
set_option maxRecDepth 100000 in
theorem wL_S_countConflicts_4 {l : Launch} {E : gD} {n0 s0 : Nat} {r : Int32} {res : gM} {k29 : Int32 → gM → Option (Int32 × gM)} (hk29 : ∀ (p2 : Int32) (mm : gM), k29 p2 mm = some (r, res) → xX l E Y_S_countConflicts n0 s0 (some (.int r)) res 29 [(2, .inl p2)] [] mm) : ∀ (f : Nat) (p0 : Option Nat) (p1 : Option Nat) (p2 : Int32) (p3 : Int32) (mm : gM), L_S_countConflicts_4 k29 f p0 p1 p2 p3 mm = some (r, res) → xX l E Y_S_countConflicts n0 s0 (some (.int r)) res 4 [(0, .inr (.inr p0)), (1, .inr (.inr p1)), (2, .inl p2), (3, .inl p3)] [] mm := by
  intro f
  induction f with
  | zero =>
    intro p0 p1 p2 p3 mm h
    rw [L_S_countConflicts_4] at h
    cases h
  | succ f ih =>
    intro p0 p1 p2 p3 mm h
    rw [L_S_countConflicts_4] at h
    refine x_iloadn 4 3 d_S_countConflicts_4 rfl rfl ?_
    refine x_sipush 5 d_S_countConflicts_5 (v := (128 : Int32)) (by decide +kernel) ?_
    refine x_icmp_ge 8 29 d_S_countConflicts_8 (by decide) (fun c1 => ?_) (fun c1 => ?_)
    · replace h := gif_t h c1
      refine x_sub [2] rfl ?_
      exact hk29 _ _ h
    · replace h := gif_f h c1
      refine x_aloadn 11 0 d_S_countConflicts_11 rfl rfl ?_
      refine x_aloadn 12 1 d_S_countConflicts_12 rfl rfl ?_
      refine x_iloadn 13 3 d_S_countConflicts_13 rfl rfl ?_
      replace h := gb1_elim h; obtain ⟨b5, h6, h⟩ := h
      replace h := gb2_elim h; obtain ⟨v2, mm3, h4, h⟩ := h
      refine x_callV 14 2 (as := [.inr (.inr p1), .inl p3]) (st' := []) (rs := [.inl v2]) (k_S_isInConflict h4) rfl cf_S_250 ⟨rfl, by decide +kernel, by decide, by decide, Nat.le_of_ble_eq_true rfl⟩ h6 rfl d_S_countConflicts_14 ?_
      refine x_if_eq 17 23 d_S_countConflicts_17 (by decide) (fun c7 => ?_) (fun c7 => ?_)
      · replace h := gif_t h c7
        replace h := gLet_elim h; obtain ⟨x8, ex8, h⟩ := h
        refine x_iinc 23 3 (v := x8) (lv' := [(3, .inl x8), (0, .inr (.inr p0)), (1, .inr (.inr p1)), (2, .inl p2)]) d_S_countConflicts_23 rfl (by rw [ex8]; rfl) (by decide) rfl ?_
        refine x_goto 26 4 d_S_countConflicts_26 (by decide) ?_
        refine x_sub [1, 2, 3, 0] rfl ?_
        exact ih _ _ _ _ _ h
      · replace h := gif_f h c7
        replace h := gLet_elim h; obtain ⟨x9, ex9, h⟩ := h
        refine x_iinc 20 2 (v := x9) (lv' := [(2, .inl x9), (0, .inr (.inr p0)), (1, .inr (.inr p1)), (3, .inl p3)]) d_S_countConflicts_20 rfl (by rw [ex9]; rfl) (by decide) rfl ?_
        replace h := gLet_elim h; obtain ⟨x10, ex10, h⟩ := h
        refine x_iinc 23 3 (v := x10) (lv' := [(3, .inl x10), (2, .inl x9), (0, .inr (.inr p0)), (1, .inr (.inr p1))]) d_S_countConflicts_23 rfl (by rw [ex10]; rfl) (by decide) rfl ?_
        refine x_goto 26 4 d_S_countConflicts_26 (by decide) ?_
        refine x_sub [2, 3, 1, 0] rfl ?_
        exact ih _ _ _ _ _ h
def F_S_countConflicts (b : Nat) (a0 : Option Nat) (mm : gM) : Option (Int32 × gM) :=
  L_S_countConflicts_4 (fun p2 mm =>
    some (p2, mm)) gF (some b) a0 (0 : Int32) (0 : Int32) mm
set_option maxHeartbeats 8000000 in
set_option maxRecDepth 100000 in
theorem w_S_countConflicts {l : Launch} {E : gD} {n0 s0 : Nat} {b : Nat} {a0 : Option Nat} {r : Int32} {mm res : gM} (h : F_S_countConflicts b a0 mm = some (r, res)) : xX l E Y_S_countConflicts n0 s0 (some (.int r)) res 0 [(0, .inr (.inr (some b))), (1, .inr (.inr a0))] [] mm := by
  unfold F_S_countConflicts at h
  refine x_iconst 0 d_S_countConflicts_0 (v := (0 : Int32)) (by decide +kernel) ?_
  refine x_istoren 1 (lv' := [(2, .inl (0 : Int32)), (0, .inr (.inr (some b))), (1, .inr (.inr a0))]) d_S_countConflicts_1 rfl (by decide) rfl ?_
  refine x_iconst 2 d_S_countConflicts_2 (v := (0 : Int32)) (by decide +kernel) ?_
  refine x_istoren 3 (lv' := [(3, .inl (0 : Int32)), (2, .inl (0 : Int32)), (0, .inr (.inr (some b))), (1, .inr (.inr a0))]) d_S_countConflicts_3 rfl (by decide) rfl ?_
  refine x_sub [2, 3, 1, 0] rfl ?_
  refine wL_S_countConflicts_4 ?_ gF _ _ _ _ _ h
  · intro p2 mm h
    refine x_iloadn 29 0 d_S_countConflicts_29 rfl rfl ?_
    cases h
    exact x_ireturn 30 rfl d_S_countConflicts_30
theorem k_S_countConflicts {b : Nat} {a0 : Option Nat} {r : Int32} {mm res : gM} (h : F_S_countConflicts b a0 mm = some (r, res)) : ∀ (l : Launch) (E : gD), gLe mm res ∧ gMet l E Y_S_countConflicts y_S_countConflicts [.inr (.inr (some b)), .inr (.inr a0)] (some (.int r)) mm res :=
  fun l E => ⟨(w_S_countConflicts (l := l) (E := E) (n0 := 0) (s0 := 0) h).1, x_met (by decide +kernel) rfl rfl rfl (Nat.le_of_ble_eq_true rfl) (w_S_countConflicts h)⟩
theorem d_S_join_0 : decode b_S_join 0 = .ok (.aload_n 0, 1) := by decide +kernel
theorem d_S_join_1 : decode b_S_join 1 = .ok (.iload_n 1, 1) := by decide +kernel
theorem d_S_join_2 : decode b_S_join 2 = .ok (.invokevirtual 110, 3) := by decide +kernel
theorem d_S_join_5 : decode b_S_join 5 = .ok (.astore_n 3, 1) := by decide +kernel
theorem d_S_join_6 : decode b_S_join 6 = .ok (.aload_n 0, 1) := by decide +kernel
theorem d_S_join_7 : decode b_S_join 7 = .ok (.iload_n 2, 1) := by decide +kernel
theorem d_S_join_8 : decode b_S_join 8 = .ok (.invokevirtual 110, 3) := by decide +kernel
theorem d_S_join_11 : decode b_S_join 11 = .ok (.astore 4, 2) := by decide +kernel
theorem d_S_join_13 : decode b_S_join 13 = .ok (.aload_n 3, 1) := by decide +kernel
theorem d_S_join_14 : decode b_S_join 14 = .ok (.ifnull 8, 3) := by decide +kernel
theorem d_S_join_17 : decode b_S_join 17 = .ok (.aload 4, 2) := by decide +kernel
theorem d_S_join_19 : decode b_S_join 19 = .ok (.ifnonnull 5, 3) := by decide +kernel
theorem d_S_join_22 : decode b_S_join 22 = .ok (.iconst (-1), 1) := by decide +kernel
theorem d_S_join_23 : decode b_S_join 23 = .ok (.ireturn, 1) := by decide +kernel
theorem d_S_join_24 : decode b_S_join 24 = .ok (.aload_n 3, 1) := by decide +kernel
theorem d_S_join_25 : decode b_S_join 25 = .ok (.getfield 100, 3) := by decide +kernel
theorem d_S_join_28 : decode b_S_join 28 = .ok (.aload 4, 2) := by decide +kernel
theorem d_S_join_30 : decode b_S_join 30 = .ok (.getfield 100, 3) := by decide +kernel
theorem d_S_join_33 : decode b_S_join 33 = .ok (.invokevirtual 114, 3) := by decide +kernel
theorem d_S_join_36 : decode b_S_join 36 = .ok (.aload_n 0, 1) := by decide +kernel
theorem d_S_join_37 : decode b_S_join 37 = .ok (.aload_n 3, 1) := by decide +kernel
theorem d_S_join_38 : decode b_S_join 38 = .ok (.getfield 100, 3) := by decide +kernel
theorem d_S_join_41 : decode b_S_join 41 = .ok (.invokevirtual 118, 3) := by decide +kernel
theorem d_S_join_44 : decode b_S_join 44 = .ok (.ireturn, 1) := by decide +kernel
def F_S_join (b : Nat) (a0 : Int32) (a1 : Int32) (mm : gM) : Option (Int32 × gM) :=
  gb1 (grc 0 (some b) mm) fun b4 =>
  gb2 (F_S_setAt b4 a0 mm) fun v1 mm2 =>
  gb1 (grc 0 (some b) mm2) fun b9 =>
  gb2 (F_S_setAt b9 a1 mm2) fun v6 mm7 =>
  if v1 = none then (
    some ((-1 : Int32), mm7))
  else (
    if v6 = none then (
      some ((-1 : Int32), mm7))
    else (
      gb1 (gfR 4 0 v1 mm7) fun v13 =>
      gb1 (gfR 4 0 v6 mm7) fun v15 =>
      gb1 (grc 5 v13 mm7) fun b20 =>
      gb2 (F_Holding_takeAllOf b20 v15 mm7) fun v17 mm18 =>
      gb1 (gfR 4 0 v1 mm18) fun v22 =>
      gb1 (grc 0 (some b) mm18) fun b27 =>
      gb2 (F_S_countConflicts b27 v22 mm18) fun v24 mm25 =>
      some (v24, mm25)))
set_option maxHeartbeats 8000000 in
set_option maxRecDepth 100000 in
theorem w_S_join {l : Launch} {E : gD} {n0 s0 : Nat} {b : Nat} {a0 : Int32} {a1 : Int32} {r : Int32} {mm res : gM} (h : F_S_join b a0 a1 mm = some (r, res)) : xX l E Y_S_join n0 s0 (some (.int r)) res 0 [(0, .inr (.inr (some b))), (1, .inl a0), (2, .inl a1)] [] mm := by
  unfold F_S_join at h
  refine x_aloadn 0 0 d_S_join_0 rfl rfl ?_
  refine x_iloadn 1 1 d_S_join_1 rfl rfl ?_
  replace h := gb1_elim h; obtain ⟨b4, h5, h⟩ := h
  replace h := gb2_elim h; obtain ⟨v1, mm2, h3, h⟩ := h
  refine x_callV 2 1 (as := [.inl a0]) (st' := []) (rs := [.inr (.inr v1)]) (k_S_setAt h3) rfl cf_S_110 ⟨rfl, by decide +kernel, by decide, by decide, Nat.le_of_ble_eq_true rfl⟩ h5 rfl d_S_join_2 ?_
  refine x_astoren 5 (lv' := [(3, .inr (.inr v1)), (0, .inr (.inr (some b))), (1, .inl a0), (2, .inl a1)]) d_S_join_5 rfl (by decide) rfl ?_
  refine x_aloadn 6 1 d_S_join_6 rfl rfl ?_
  refine x_iloadn 7 3 d_S_join_7 rfl rfl ?_
  replace h := gb1_elim h; obtain ⟨b9, h10, h⟩ := h
  replace h := gb2_elim h; obtain ⟨v6, mm7, h8, h⟩ := h
  refine x_callV 8 1 (as := [.inl a1]) (st' := []) (rs := [.inr (.inr v6)]) (k_S_setAt h8) rfl cf_S_110 ⟨rfl, by decide +kernel, by decide, by decide, Nat.le_of_ble_eq_true rfl⟩ h10 rfl d_S_join_8 ?_
  refine x_astore 11 (lv' := [(4, .inr (.inr v6)), (3, .inr (.inr v1)), (0, .inr (.inr (some b))), (1, .inl a0), (2, .inl a1)]) d_S_join_11 (by decide) rfl ?_
  refine x_aloadn 13 1 d_S_join_13 rfl rfl ?_
  refine x_ifnull 14 22 d_S_join_14 (by decide) (fun c11 => ?_) (fun c11 => ?_)
  · replace h := gif_t h c11
    refine x_iconst 22 d_S_join_22 (v := (-1 : Int32)) (by decide +kernel) ?_
    cases h
    exact x_ireturn 23 rfl d_S_join_23
  · replace h := gif_f h c11
    refine x_aload 17 0 d_S_join_17 rfl ?_
    refine x_ifnonnull 19 24 d_S_join_19 (by decide) (fun c12 => ?_) (fun c12 => ?_)
    · replace h := gif_t h c12
      refine x_iconst 22 d_S_join_22 (v := (-1 : Int32)) (by decide +kernel) ?_
      cases h
      exact x_ireturn 23 rfl d_S_join_23
    · replace h := gif_f h c12
      refine x_aloadn 24 1 d_S_join_24 rfl rfl ?_
      replace h := gb1_elim h; obtain ⟨v13, h14, h⟩ := h
      refine x_getR 25 h14 fl_S_100 d_S_join_25 ?_
      refine x_aload 28 0 d_S_join_28 rfl ?_
      replace h := gb1_elim h; obtain ⟨v15, h16, h⟩ := h
      refine x_getR 30 h16 fl_S_100 d_S_join_30 ?_
      replace h := gb1_elim h; obtain ⟨b20, h21, h⟩ := h
      replace h := gb2_elim h; obtain ⟨v17, mm18, h19, h⟩ := h
      refine x_callV 33 1 (as := [.inr (.inr v15)]) (st' := []) (rs := []) (k_Holding_takeAllOf h19) rfl cf_S_114 ⟨rfl, by decide +kernel, by decide, by decide, Nat.le_of_ble_eq_true rfl⟩ h21 rfl d_S_join_33 ?_
      refine x_aloadn 36 2 d_S_join_36 rfl rfl ?_
      refine x_aloadn 37 1 d_S_join_37 rfl rfl ?_
      replace h := gb1_elim h; obtain ⟨v22, h23, h⟩ := h
      refine x_getR 38 h23 fl_S_100 d_S_join_38 ?_
      replace h := gb1_elim h; obtain ⟨b27, h28, h⟩ := h
      replace h := gb2_elim h; obtain ⟨v24, mm25, h26, h⟩ := h
      refine x_callV 41 1 (as := [.inr (.inr v22)]) (st' := []) (rs := [.inl v24]) (k_S_countConflicts h26) rfl cf_S_118 ⟨rfl, by decide +kernel, by decide, by decide, Nat.le_of_ble_eq_true rfl⟩ h28 rfl d_S_join_41 ?_
      cases h
      exact x_ireturn 44 rfl d_S_join_44
theorem k_S_join {b : Nat} {a0 : Int32} {a1 : Int32} {r : Int32} {mm res : gM} (h : F_S_join b a0 a1 mm = some (r, res)) : ∀ (l : Launch) (E : gD), gLe mm res ∧ gMet l E Y_S_join y_S_join [.inr (.inr (some b)), .inl a0, .inl a1] (some (.int r)) mm res :=
  fun l E => ⟨(w_S_join (l := l) (E := E) (n0 := 0) (s0 := 0) h).1, x_met (by decide +kernel) rfl rfl rfl (Nat.le_of_ble_eq_true rfl) (w_S_join h)⟩
theorem d_M_isSet_0 : decode b_M_isSet 0 = .ok (.iload_n 1, 1) := by decide +kernel
theorem d_M_isSet_1 : decode b_M_isSet 1 = .ok (.ifCond .lt 15, 3) := by decide +kernel
theorem d_M_isSet_4 : decode b_M_isSet 4 = .ok (.iload_n 1, 1) := by decide +kernel
theorem d_M_isSet_5 : decode b_M_isSet 5 = .ok (.aload_n 0, 1) := by decide +kernel
theorem d_M_isSet_6 : decode b_M_isSet 6 = .ok (.getfield 86, 3) := by decide +kernel
theorem d_M_isSet_9 : decode b_M_isSet 9 = .ok (.if_icmp .ge 7, 3) := by decide +kernel
theorem d_M_isSet_12 : decode b_M_isSet 12 = .ok (.iconst 1, 1) := by decide +kernel
theorem d_M_isSet_13 : decode b_M_isSet 13 = .ok (.goto 4, 3) := by decide +kernel
theorem d_M_isSet_16 : decode b_M_isSet 16 = .ok (.iconst 0, 1) := by decide +kernel
theorem d_M_isSet_17 : decode b_M_isSet 17 = .ok (.ireturn, 1) := by decide +kernel
def F_M_isSet (b : Nat) (a0 : Int32) (mm : gM) : Option (Int32 × gM) :=
  if a0 < 0 then (
    some ((0 : Int32), mm))
  else (
    gb1 (gfI 10 9 (some b) mm) fun v2 =>
    if v2 ≤ a0 then (
      some ((0 : Int32), mm))
    else (
      some ((1 : Int32), mm)))
set_option maxHeartbeats 8000000 in
set_option maxRecDepth 100000 in
theorem w_M_isSet {l : Launch} {E : gD} {n0 s0 : Nat} {b : Nat} {a0 : Int32} {r : Int32} {mm res : gM} (h : F_M_isSet b a0 mm = some (r, res)) : xX l E Y_M_isSet n0 s0 (some (.int r)) res 0 [(0, .inr (.inr (some b))), (1, .inl a0)] [] mm := by
  unfold F_M_isSet at h
  refine x_iloadn 0 1 d_M_isSet_0 rfl rfl ?_
  refine x_if_lt 1 16 d_M_isSet_1 (by decide) (fun c1 => ?_) (fun c1 => ?_)
  · replace h := gif_t h c1
    refine x_iconst 16 d_M_isSet_16 (v := (0 : Int32)) (by decide +kernel) ?_
    cases h
    exact x_zreturn 17 (by decide) rfl d_M_isSet_17
  · replace h := gif_f h c1
    refine x_iloadn 4 1 d_M_isSet_4 rfl rfl ?_
    refine x_aloadn 5 0 d_M_isSet_5 rfl rfl ?_
    replace h := gb1_elim h; obtain ⟨v2, h3, h⟩ := h
    refine x_getI 6 h3 fl_M_86 d_M_isSet_6 ?_
    refine x_icmp_ge 9 16 d_M_isSet_9 (by decide) (fun c4 => ?_) (fun c4 => ?_)
    · replace h := gif_t h c4
      refine x_iconst 16 d_M_isSet_16 (v := (0 : Int32)) (by decide +kernel) ?_
      cases h
      exact x_zreturn 17 (by decide) rfl d_M_isSet_17
    · replace h := gif_f h c4
      refine x_iconst 12 d_M_isSet_12 (v := (1 : Int32)) (by decide +kernel) ?_
      refine x_goto 13 17 d_M_isSet_13 (by decide) ?_
      cases h
      exact x_zreturn 17 (by decide) rfl d_M_isSet_17
theorem k_M_isSet {b : Nat} {a0 : Int32} {r : Int32} {mm res : gM} (h : F_M_isSet b a0 mm = some (r, res)) : ∀ (l : Launch) (E : gD), gLe mm res ∧ gMet l E Y_M_isSet y_M_isSet [.inr (.inr (some b)), .inl a0] (some (.int r)) mm res :=
  fun l E => ⟨(w_M_isSet (l := l) (E := E) (n0 := 0) (s0 := 0) h).1, x_met (by decide +kernel) rfl rfl rfl (Nat.le_of_ble_eq_true rfl) (w_M_isSet h)⟩
