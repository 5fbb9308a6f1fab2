-- M_set S_setAt Holding_takeAllOf Arrays_fill Current_clear Holding_has Current_offer
theorem d_M_set_0 : decode b_M_set 0 = .ok (.aload_n 0, 1) := by decide +kernel
theorem d_M_set_1 : decode b_M_set 1 = .ok (.iload_n 1, 1) := by decide +kernel
theorem d_M_set_2 : decode b_M_set 2 = .ok (.invokevirtual 92, 3) := by decide +kernel
theorem d_M_set_5 : decode b_M_set 5 = .ok (.ifCond .eq 12, 3) := by decide +kernel
theorem d_M_set_8 : decode b_M_set 8 = .ok (.aload_n 0, 1) := by decide +kernel
theorem d_M_set_9 : decode b_M_set 9 = .ok (.getfield 86, 3) := by decide +kernel
theorem d_M_set_12 : decode b_M_set 12 = .ok (.bipush 12, 2) := by decide +kernel
theorem d_M_set_14 : decode b_M_set 14 = .ok (.if_icmp .ne 5, 3) := by decide +kernel
theorem d_M_set_17 : decode b_M_set 17 = .ok (.iconst (-1), 1) := by decide +kernel
theorem d_M_set_18 : decode b_M_set 18 = .ok (.ireturn, 1) := by decide +kernel
theorem d_M_set_19 : decode b_M_set 19 = .ok (.iconst 0, 1) := by decide +kernel
theorem d_M_set_20 : decode b_M_set 20 = .ok (.istore_n 2, 1) := by decide +kernel
theorem d_M_set_21 : decode b_M_set 21 = .ok (.iload_n 2, 1) := by decide +kernel
theorem d_M_set_22 : decode b_M_set 22 = .ok (.aload_n 0, 1) := by decide +kernel
theorem d_M_set_23 : decode b_M_set 23 = .ok (.getfield 89, 3) := by decide +kernel
theorem d_M_set_26 : decode b_M_set 26 = .ok (.if_icmp .ge 39, 3) := by decide +kernel
theorem d_M_set_29 : decode b_M_set 29 = .ok (.aload_n 0, 1) := by decide +kernel
theorem d_M_set_30 : decode b_M_set 30 = .ok (.getfield 33, 3) := by decide +kernel
theorem d_M_set_33 : decode b_M_set 33 = .ok (.sipush 200, 3) := by decide +kernel
theorem d_M_set_36 : decode b_M_set 36 = .ok (.aload_n 0, 1) := by decide +kernel
theorem d_M_set_37 : decode b_M_set 37 = .ok (.getfield 86, 3) := by decide +kernel
theorem d_M_set_40 : decode b_M_set 40 = .ok (.imul, 1) := by decide +kernel
theorem d_M_set_41 : decode b_M_set 41 = .ok (.iload_n 2, 1) := by decide +kernel
theorem d_M_set_42 : decode b_M_set 42 = .ok (.iadd, 1) := by decide +kernel
theorem d_M_set_43 : decode b_M_set 43 = .ok (.aload_n 0, 1) := by decide +kernel
theorem d_M_set_44 : decode b_M_set 44 = .ok (.getfield 13, 3) := by decide +kernel
theorem d_M_set_47 : decode b_M_set 47 = .ok (.iload_n 2, 1) := by decide +kernel
theorem d_M_set_48 : decode b_M_set 48 = .ok (.iaload, 1) := by decide +kernel
theorem d_M_set_49 : decode b_M_set 49 = .ok (.iload_n 1, 1) := by decide +kernel
theorem d_M_set_50 : decode b_M_set 50 = .ok (.if_icmp .ne 7, 3) := by decide +kernel
theorem d_M_set_53 : decode b_M_set 53 = .ok (.iconst 1, 1) := by decide +kernel
theorem d_M_set_54 : decode b_M_set 54 = .ok (.goto 4, 3) := by decide +kernel
theorem d_M_set_57 : decode b_M_set 57 = .ok (.iconst 0, 1) := by decide +kernel
theorem d_M_set_58 : decode b_M_set 58 = .ok (.bastore, 1) := by decide +kernel
theorem d_M_set_59 : decode b_M_set 59 = .ok (.iinc 2 1, 3) := by decide +kernel
theorem d_M_set_62 : decode b_M_set 62 = .ok (.goto (-41), 3) := by decide +kernel
theorem d_M_set_65 : decode b_M_set 65 = .ok (.aload_n 0, 1) := by decide +kernel
theorem d_M_set_66 : decode b_M_set 66 = .ok (.dup, 1) := by decide +kernel
theorem d_M_set_67 : decode b_M_set 67 = .ok (.getfield 86, 3) := by decide +kernel
theorem d_M_set_70 : decode b_M_set 70 = .ok (.iconst 1, 1) := by decide +kernel
theorem d_M_set_71 : decode b_M_set 71 = .ok (.iadd, 1) := by decide +kernel
theorem d_M_set_72 : decode b_M_set 72 = .ok (.putfield 86, 3) := by decide +kernel
theorem d_M_set_75 : decode b_M_set 75 = .ok (.aload_n 0, 1) := by decide +kernel
theorem d_M_set_76 : decode b_M_set 76 = .ok (.getfield 86, 3) := by decide +kernel
theorem d_M_set_79 : decode b_M_set 79 = .ok (.iconst 1, 1) := by decide +kernel
theorem d_M_set_80 : decode b_M_set 80 = .ok (.isub, 1) := by decide +kernel
theorem d_M_set_81 : decode b_M_set 81 = .ok (.ireturn, 1) := by decide +kernel
def L_M_set_21 (k65 : Option Nat → gM → Option (Int32 × gM)) : Nat → Option Nat → Int32 → Int32 → gM → Option (Int32 × gM)
  | 0, _, _, _, _ => none
  | f + 1, p0, p1, p2, mm =>
    gb1 (gfI 10 2 p0 mm) fun v10 =>
    if v10 ≤ p2 then (
      k65 p0 mm)
    else (
      gb1 (gfR 10 10 p0 mm) fun v13 =>
      gb1 (gfI 10 9 p0 mm) fun v15 =>
      gb1 (gfR 10 3 p0 mm) fun v17 =>
      gb1 (gaI 0 v17 p2 mm) fun v19 =>
      if v19 = p1 then (
        gb1 (gsI 2 v13 (((200 : Int32) * v15) + p2) (1 : Int32) mm) fun mm22 =>
        gLet (p2 + 1) fun x24 =>
        L_M_set_21 k65 f p0 p1 x24 mm22)
      else (
        gb1 (gsI 2 v13 (((200 : Int32) * v15) + p2) (0 : Int32) mm) fun mm25 =>
        gLet (p2 + 1) fun x27 =>
        L_M_set_21 k65 f p0 p1 x27 mm25))
set_option maxHeartbeats 4000000 in
set_option maxRecDepth 100000 in
theorem wL_M_set_21 {l : Launch} {E : gD} {n0 s0 : Nat} {r : Int32} {res : gM} {k65 : Option Nat → gM → Option (Int32 × gM)} (hk65 : ∀ (p0 : Option Nat) (mm : gM), k65 p0 mm = some (r, res) → xX l E Y_M_set n0 s0 (some (.int r)) res 65 [(0, .inr (.inr p0))] [] mm) : ∀ (f : Nat) (p0 : Option Nat) (p1 : Int32) (p2 : Int32) (mm : gM), L_M_set_21 k65 f p0 p1 p2 mm = some (r, res) → xX l E Y_M_set n0 s0 (some (.int r)) res 21 [(0, .inr (.inr p0)), (1, .inl p1), (2, .inl p2)] [] mm := by
  intro f
  induction f with
  | zero =>
    intro p0 p1 p2 mm h
    rw [L_M_set_21] at h
    cases h
  | succ f ih =>
    intro p0 p1 p2 mm h
    rw [L_M_set_21] at h
    refine x_iloadn 21 2 d_M_set_21 rfl rfl ?_
    refine x_aloadn 22 0 d_M_set_22 rfl rfl ?_
    replace h := gb1_elim h; obtain ⟨v10, h11, h⟩ := h
    refine x_getI 23 h11 fl_M_89 d_M_set_23 ?_
    refine x_icmp_ge 26 65 d_M_set_26 (by decide) (fun c12 => ?_) (fun c12 => ?_)
    · replace h := gif_t h c12
      refine x_sub [0] rfl ?_
      exact hk65 _ _ h
    · replace h := gif_f h c12
      refine x_aloadn 29 0 d_M_set_29 rfl rfl ?_
      replace h := gb1_elim h; obtain ⟨v13, h14, h⟩ := h
      refine x_getR 30 h14 fl_M_33 d_M_set_30 ?_
      refine x_sipush 33 d_M_set_33 (v := (200 : Int32)) (by decide +kernel) ?_
      refine x_aloadn 36 0 d_M_set_36 rfl rfl ?_
      replace h := gb1_elim h; obtain ⟨v15, h16, h⟩ := h
      refine x_getI 37 h16 fl_M_86 d_M_set_37 ?_
      refine x_imul 40 d_M_set_40 ?_
      refine x_iloadn 41 2 d_M_set_41 rfl rfl ?_
      refine x_iadd 42 d_M_set_42 ?_
      refine x_aloadn 43 0 d_M_set_43 rfl rfl ?_
      replace h := gb1_elim h; obtain ⟨v17, h18, h⟩ := h
      refine x_getR 44 h18 fl_M_13 d_M_set_44 ?_
      refine x_iloadn 47 2 d_M_set_47 rfl rfl ?_
      replace h := gb1_elim h; obtain ⟨v19, h20, h⟩ := h
      refine x_iald 48 rfl h20 d_M_set_48 ?_
      refine x_iloadn 49 1 d_M_set_49 rfl rfl ?_
      refine x_icmp_ne 50 57 d_M_set_50 (by decide) (fun c21 => ?_) (fun c21 => ?_)
      · replace h := gif_t h c21
        refine x_iconst 53 d_M_set_53 (v := (1 : Int32)) (by decide +kernel) ?_
        refine x_goto 54 58 d_M_set_54 (by decide) ?_
        replace h := gb1_elim h; obtain ⟨mm22, h23, h⟩ := h
        refine x_zast 58 (by decide) (by decide) rfl h23 d_M_set_58 ?_
        replace h := gLet_elim h; obtain ⟨x24, ex24, h⟩ := h
        refine x_iinc 59 2 (v := x24) (lv' := [(2, .inl x24), (0, .inr (.inr p0)), (1, .inl p1)]) d_M_set_59 rfl (by rw [ex24]; rfl) (by decide) rfl ?_
        refine x_goto 62 21 d_M_set_62 (by decide) ?_
        refine x_sub [1, 2, 0] rfl ?_
        exact ih _ _ _ _ h
      · replace h := gif_f h c21
        refine x_iconst 57 d_M_set_57 (v := (0 : Int32)) (by decide +kernel) ?_
        replace h := gb1_elim h; obtain ⟨mm25, h26, h⟩ := h
        refine x_zast 58 (by decide) (by decide) rfl h26 d_M_set_58 ?_
        replace h := gLet_elim h; obtain ⟨x27, ex27, h⟩ := h
        refine x_iinc 59 2 (v := x27) (lv' := [(2, .inl x27), (0, .inr (.inr p0)), (1, .inl p1)]) d_M_set_59 rfl (by rw [ex27]; rfl) (by decide) rfl ?_
        refine x_goto 62 21 d_M_set_62 (by decide) ?_
        refine x_sub [1, 2, 0] rfl ?_
        exact ih _ _ _ _ h
def F_M_set (b : Nat) (a0 : Int32) (mm : gM) : Option (Int32 × gM) :=
  gb1 (grc 10 (some b) mm) fun b4 =>
  gb2 (F_M_isTeller b4 a0 mm) fun v1 mm2 =>
  if v1 = 0 then (
    some ((-1 : Int32), mm2))
  else (
    gb1 (gfI 10 9 (some b) mm2) fun v7 =>
    if v7 = (12 : Int32) then (
      some ((-1 : Int32), mm2))
    else (
      L_M_set_21 (fun p0 mm =>
        gb1 (gfI 10 9 p0 mm) fun v28 =>
        gb1 (gpV 10 9 p0 (.int (v28 + (1 : Int32))) mm) fun mm30 =>
        gb1 (gfI 10 9 p0 mm30) fun v32 =>
        some ((v32 - (1 : Int32)), mm30)) gF (some b) a0 (0 : Int32) mm2))
set_option maxHeartbeats 8000000 in
set_option maxRecDepth 100000 in
theorem w_M_set {l : Launch} {E : gD} {n0 s0 : Nat} {b : Nat} {a0 : Int32} {r : Int32} {mm res : gM} (h : F_M_set b a0 mm = some (r, res)) : xX l E Y_M_set n0 s0 (some (.int r)) res 0 [(0, .inr (.inr (some b))), (1, .inl a0)] [] mm := by
  unfold F_M_set at h
  refine x_aloadn 0 0 d_M_set_0 rfl rfl ?_
  refine x_iloadn 1 1 d_M_set_1 rfl rfl ?_
  replace h := gb1_elim h; obtain ⟨b4, h5, h⟩ := h
  replace h := gb2_elim h; obtain ⟨v1, mm2, h3, h⟩ := h
  refine x_callV 2 1 (as := [.inl a0]) (st' := []) (rs := [.inl v1]) (k_M_isTeller h3) rfl cf_M_92 ⟨rfl, by decide +kernel, by decide, by decide, Nat.le_of_ble_eq_true rfl⟩ h5 rfl d_M_set_2 ?_
  refine x_if_eq 5 17 d_M_set_5 (by decide) (fun c6 => ?_) (fun c6 => ?_)
  · replace h := gif_t h c6
    refine x_iconst 17 d_M_set_17 (v := (-1 : Int32)) (by decide +kernel) ?_
    cases h
    exact x_ireturn 18 rfl d_M_set_18
  · replace h := gif_f h c6
    refine x_aloadn 8 0 d_M_set_8 rfl rfl ?_
    replace h := gb1_elim h; obtain ⟨v7, h8, h⟩ := h
    refine x_getI 9 h8 fl_M_86 d_M_set_9 ?_
    refine x_bipush 12 d_M_set_12 (v := (12 : Int32)) (by decide +kernel) ?_
    refine x_icmp_ne 14 19 d_M_set_14 (by decide) (fun c9 => ?_) (fun c9 => ?_)
    · replace h := gif_t h c9
      refine x_iconst 17 d_M_set_17 (v := (-1 : Int32)) (by decide +kernel) ?_
      cases h
      exact x_ireturn 18 rfl d_M_set_18
    · replace h := gif_f h c9
      refine x_iconst 19 d_M_set_19 (v := (0 : Int32)) (by decide +kernel) ?_
      refine x_istoren 20 (lv' := [(2, .inl (0 : Int32)), (0, .inr (.inr (some b))), (1, .inl a0)]) d_M_set_20 rfl (by decide) rfl ?_
      refine x_sub [1, 2, 0] rfl ?_
      refine wL_M_set_21 ?_ gF _ _ _ _ h
      · intro p0 mm h
        refine x_aloadn 65 0 d_M_set_65 rfl rfl ?_
        refine x_dup 66 d_M_set_66 rfl ?_
        replace h := gb1_elim h; obtain ⟨v28, h29, h⟩ := h
        refine x_getI 67 h29 fl_M_86 d_M_set_67 ?_
        refine x_iconst 70 d_M_set_70 (v := (1 : Int32)) (by decide +kernel) ?_
        refine x_iadd 71 d_M_set_71 ?_
        replace h := gb1_elim h; obtain ⟨mm30, h31, h⟩ := h
        refine x_putV 72 fp_M_86 rfl rfl h31 d_M_set_72 ?_
        refine x_aloadn 75 0 d_M_set_75 rfl rfl ?_
        replace h := gb1_elim h; obtain ⟨v32, h33, h⟩ := h
        refine x_getI 76 h33 fl_M_86 d_M_set_76 ?_
        refine x_iconst 79 d_M_set_79 (v := (1 : Int32)) (by decide +kernel) ?_
        refine x_isub 80 d_M_set_80 ?_
        cases h
        exact x_ireturn 81 rfl d_M_set_81
theorem k_M_set {b : Nat} {a0 : Int32} {r : Int32} {mm res : gM} (h : F_M_set b a0 mm = some (r, res)) : ∀ (l : Launch) (E : gD), gLe mm res ∧ gMet l E Y_M_set y_M_set [.inr (.inr (some b)), .inl a0] (some (.int r)) mm res :=
  fun l E => ⟨(w_M_set (l := l) (E := E) (n0 := 0) (s0 := 0) h).1, x_met (by decide +kernel) rfl rfl rfl (Nat.le_of_ble_eq_true rfl) (w_M_set h)⟩
theorem d_S_setAt_0 : decode b_S_setAt 0 = .ok (.iload_n 1, 1) := by decide +kernel
theorem d_S_setAt_1 : decode b_S_setAt 1 = .ok (.ifCond .lt 28, 3) := by decide +kernel
theorem d_S_setAt_4 : decode b_S_setAt 4 = .ok (.iload_n 1, 1) := by decide +kernel
theorem d_S_setAt_5 : decode b_S_setAt 5 = .ok (.aload_n 0, 1) := by decide +kernel
theorem d_S_setAt_6 : decode b_S_setAt 6 = .ok (.getfield 18, 3) := by decide +kernel
theorem d_S_setAt_9 : decode b_S_setAt 9 = .ok (.invokevirtual 45, 3) := by decide +kernel
theorem d_S_setAt_12 : decode b_S_setAt 12 = .ok (.if_icmp .ge 17, 3) := by decide +kernel
theorem d_S_setAt_15 : decode b_S_setAt 15 = .ok (.aload_n 0, 1) := by decide +kernel
theorem d_S_setAt_16 : decode b_S_setAt 16 = .ok (.getfield 18, 3) := by decide +kernel
theorem d_S_setAt_19 : decode b_S_setAt 19 = .ok (.iload_n 1, 1) := by decide +kernel
theorem d_S_setAt_20 : decode b_S_setAt 20 = .ok (.invokevirtual 208, 3) := by decide +kernel
theorem d_S_setAt_23 : decode b_S_setAt 23 = .ok (.checkcast 97, 3) := by decide +kernel
theorem d_S_setAt_26 : decode b_S_setAt 26 = .ok (.goto 4, 3) := by decide +kernel
theorem d_S_setAt_29 : decode b_S_setAt 29 = .ok (.aconst_null, 1) := by decide +kernel
theorem d_S_setAt_30 : decode b_S_setAt 30 = .ok (.areturn, 1) := by decide +kernel
def F_S_setAt (b : Nat) (a0 : Int32) (mm : gM) : Option (Option Nat × gM) :=
  if a0 < 0 then (
    some (none, mm))
  else (
    gb1 (gfR 0 1 (some b) mm) fun v2 =>
    gb1 (grc 9 v2 mm) fun b7 =>
    gb2 (F_AL_size b7  mm) fun v4 mm5 =>
    if v4 ≤ a0 then (
      some (none, mm5))
    else (
      gb1 (gfR 0 1 (some b) mm5) fun v10 =>
      gb1 (grc 9 v10 mm5) fun b15 =>
      gb2 (F_AL_get b15 a0 mm5) fun v12 mm13 =>
      gb1 (gcs 4 v12 mm13) fun u17 =>
      some (v12, mm13)))
set_option maxHeartbeats 8000000 in
set_option maxRecDepth 100000 in
theorem w_S_setAt {l : Launch} {E : gD} {n0 s0 : Nat} {b : Nat} {a0 : Int32} {r : Option Nat} {mm res : gM} (h : F_S_setAt b a0 mm = some (r, res)) : xX l E Y_S_setAt n0 s0 (some (va_rf r)) res 0 [(0, .inr (.inr (some b))), (1, .inl a0)] [] mm := by
  unfold F_S_setAt at h
  refine x_iloadn 0 1 d_S_setAt_0 rfl rfl ?_
  refine x_if_lt 1 29 d_S_setAt_1 (by decide) (fun c1 => ?_) (fun c1 => ?_)
  · replace h := gif_t h c1
    refine x_null 29 d_S_setAt_29 ?_
    cases h
    exact x_areturn 30 rfl (Or.inl ⟨_, rfl⟩) d_S_setAt_30
  · replace h := gif_f h c1
    refine x_iloadn 4 1 d_S_setAt_4 rfl rfl ?_
    refine x_aloadn 5 0 d_S_setAt_5 rfl rfl ?_
    replace h := gb1_elim h; obtain ⟨v2, h3, h⟩ := h
    refine x_getR 6 h3 fl_S_18 d_S_setAt_6 ?_
    replace h := gb1_elim h; obtain ⟨b7, h8, h⟩ := h
    replace h := gb2_elim h; obtain ⟨v4, mm5, h6, h⟩ := h
    refine x_callV 9 0 (as := []) (st' := [.inl a0]) (rs := [.inl v4]) (k_AL_size h6) rfl cf_S_45 ⟨rfl, by decide +kernel, by decide, by decide, Nat.le_of_ble_eq_true rfl⟩ h8 rfl d_S_setAt_9 ?_
    refine x_icmp_ge 12 29 d_S_setAt_12 (by decide) (fun c9 => ?_) (fun c9 => ?_)
    · replace h := gif_t h c9
      refine x_null 29 d_S_setAt_29 ?_
      cases h
      exact x_areturn 30 rfl (Or.inl ⟨_, rfl⟩) d_S_setAt_30
    · replace h := gif_f h c9
      refine x_aloadn 15 0 d_S_setAt_15 rfl rfl ?_
      replace h := gb1_elim h; obtain ⟨v10, h11, h⟩ := h
      refine x_getR 16 h11 fl_S_18 d_S_setAt_16 ?_
      refine x_iloadn 19 1 d_S_setAt_19 rfl rfl ?_
      replace h := gb1_elim h; obtain ⟨b15, h16, h⟩ := h
      replace h := gb2_elim h; obtain ⟨v12, mm13, h14, h⟩ := h
      refine x_callV 20 1 (as := [.inl a0]) (st' := []) (rs := [.inr (.inr v12)]) (k_AL_get h14) rfl cf_S_208 ⟨rfl, by decide +kernel, by decide, by decide, Nat.le_of_ble_eq_true rfl⟩ h16 rfl d_S_setAt_20 ?_
      replace h := gb1_elim h; obtain ⟨u17, h18, h⟩ := h
      refine x_cast 23 h18 (show gCl[4]? = some (R_ShipSet, T_ShipSet, 3) from rfl) (gT_in1 115 rfl) d_S_setAt_23 ?_
      refine x_goto 26 30 d_S_setAt_26 (by decide) ?_
      cases h
      exact x_areturn 30 rfl (Or.inl ⟨_, rfl⟩) d_S_setAt_30
theorem k_S_setAt {b : Nat} {a0 : Int32} {r : Option Nat} {mm res : gM} (h : F_S_setAt b a0 mm = some (r, res)) : ∀ (l : Launch) (E : gD), gLe mm res ∧ gMet l E Y_S_setAt y_S_setAt [.inr (.inr (some b)), .inl a0] (some (va_rf r)) mm res :=
  fun l E => ⟨(w_S_setAt (l := l) (E := E) (n0 := 0) (s0 := 0) h).1, x_met (by decide +kernel) rfl rfl rfl (Nat.le_of_ble_eq_true rfl) (w_S_setAt h)⟩
theorem d_Holding_takeAllOf_0 : decode b_Holding_takeAllOf 0 = .ok (.iconst 0, 1) := by decide +kernel
theorem d_Holding_takeAllOf_1 : decode b_Holding_takeAllOf 1 = .ok (.istore_n 2, 1) := by decide +kernel
theorem d_Holding_takeAllOf_2 : decode b_Holding_takeAllOf 2 = .ok (.iload_n 2, 1) := by decide +kernel
theorem d_Holding_takeAllOf_3 : decode b_Holding_takeAllOf 3 = .ok (.bipush 8, 2) := by decide +kernel
theorem d_Holding_takeAllOf_5 : decode b_Holding_takeAllOf 5 = .ok (.if_icmp .ge 30, 3) := by decide +kernel
theorem d_Holding_takeAllOf_8 : decode b_Holding_takeAllOf 8 = .ok (.aload_n 0, 1) := by decide +kernel
theorem d_Holding_takeAllOf_9 : decode b_Holding_takeAllOf 9 = .ok (.getfield 9, 3) := by decide +kernel
theorem d_Holding_takeAllOf_12 : decode b_Holding_takeAllOf 12 = .ok (.iload_n 2, 1) := by decide +kernel
theorem d_Holding_takeAllOf_13 : decode b_Holding_takeAllOf 13 = .ok (.aload_n 0, 1) := by decide +kernel
theorem d_Holding_takeAllOf_14 : decode b_Holding_takeAllOf 14 = .ok (.getfield 9, 3) := by decide +kernel
theorem d_Holding_takeAllOf_17 : decode b_Holding_takeAllOf 17 = .ok (.iload_n 2, 1) := by decide +kernel
theorem d_Holding_takeAllOf_18 : decode b_Holding_takeAllOf 18 = .ok (.iaload, 1) := by decide +kernel
theorem d_Holding_takeAllOf_19 : decode b_Holding_takeAllOf 19 = .ok (.aload_n 1, 1) := by decide +kernel
theorem d_Holding_takeAllOf_20 : decode b_Holding_takeAllOf 20 = .ok (.getfield 9, 3) := by decide +kernel
theorem d_Holding_takeAllOf_23 : decode b_Holding_takeAllOf 23 = .ok (.iload_n 2, 1) := by decide +kernel
theorem d_Holding_takeAllOf_24 : decode b_Holding_takeAllOf 24 = .ok (.iaload, 1) := by decide +kernel
theorem d_Holding_takeAllOf_25 : decode b_Holding_takeAllOf 25 = .ok (.invokestatic 28, 3) := by decide +kernel
theorem d_Holding_takeAllOf_28 : decode b_Holding_takeAllOf 28 = .ok (.iastore, 1) := by decide +kernel
theorem d_Holding_takeAllOf_29 : decode b_Holding_takeAllOf 29 = .ok (.iinc 2 1, 3) := by decide +kernel
theorem d_Holding_takeAllOf_32 : decode b_Holding_takeAllOf 32 = .ok (.goto (-30), 3) := by decide +kernel
theorem d_Holding_takeAllOf_35 : decode b_Holding_takeAllOf 35 = .ok (.aload_n 0, 1) := by decide +kernel
theorem d_Holding_takeAllOf_36 : decode b_Holding_takeAllOf 36 = .ok (.dup, 1) := by decide +kernel
theorem d_Holding_takeAllOf_37 : decode b_Holding_takeAllOf 37 = .ok (.getfield 15, 3) := by decide +kernel
theorem d_Holding_takeAllOf_40 : decode b_Holding_takeAllOf 40 = .ok (.aload_n 1, 1) := by decide +kernel
theorem d_Holding_takeAllOf_41 : decode b_Holding_takeAllOf 41 = .ok (.getfield 15, 3) := by decide +kernel
theorem d_Holding_takeAllOf_44 : decode b_Holding_takeAllOf 44 = .ok (.lor, 1) := by decide +kernel
theorem d_Holding_takeAllOf_45 : decode b_Holding_takeAllOf 45 = .ok (.putfield 15, 3) := by decide +kernel
theorem d_Holding_takeAllOf_48 : decode b_Holding_takeAllOf 48 = .ok (.return_, 1) := by decide +kernel
def L_Holding_takeAllOf_2 (k35 : Option Nat → Option Nat → gM → Option (Unit × gM)) : Nat → Option Nat → Option Nat → Int32 → gM → Option (Unit × gM)
  | 0, _, _, _, _ => none
  | f + 1, p0, p1, p2, mm =>
    if (8 : Int32) ≤ p2 then (
      k35 p0 p1 mm)
    else (
      gb1 (gfR 5 0 p0 mm) fun v2 =>
      gb1 (gfR 5 0 p0 mm) fun v4 =>
      gb1 (gaI 0 v4 p2 mm) fun v6 =>
      gb1 (gfR 5 0 p1 mm) fun v8 =>
      gb1 (gaI 0 v8 p2 mm) fun v10 =>
      gLet (if v6 < v10 then v10 else v6) fun x12 =>
      gb1 (gsI 0 v2 p2 x12 mm) fun mm13 =>
      gLet (p2 + 1) fun x15 =>
      L_Holding_takeAllOf_2 k35 f p0 p1 x15 mm13)
set_option maxHeartbeats 4000000 in
set_option maxRecDepth 100000 in
theorem wL_Holding_takeAllOf_2 {l : Launch} {E : gD} {n0 s0 : Nat} {r : Unit} {res : gM} {k35 : Option Nat → Option Nat → gM → Option (Unit × gM)} (hk35 : ∀ (p0 : Option Nat) (p1 : Option Nat) (mm : gM), k35 p0 p1 mm = some (r, res) → xX l E Y_Holding_takeAllOf n0 s0 none res 35 [(0, .inr (.inr p0)), (1, .inr (.inr p1))] [] mm) : ∀ (f : Nat) (p0 : Option Nat) (p1 : Option Nat) (p2 : Int32) (mm : gM), L_Holding_takeAllOf_2 k35 f p0 p1 p2 mm = some (r, res) → xX l E Y_Holding_takeAllOf n0 s0 none res 2 [(0, .inr (.inr p0)), (1, .inr (.inr p1)), (2, .inl p2)] [] mm := by
  intro f
  induction f with
  | zero =>
    intro p0 p1 p2 mm h
    rw [L_Holding_takeAllOf_2] at h
    cases h
  | succ f ih =>
    intro p0 p1 p2 mm h
    rw [L_Holding_takeAllOf_2] at h
    refine x_iloadn 2 2 d_Holding_takeAllOf_2 rfl rfl ?_
    refine x_bipush 3 d_Holding_takeAllOf_3 (v := (8 : Int32)) (by decide +kernel) ?_
    refine x_icmp_ge 5 35 d_Holding_takeAllOf_5 (by decide) (fun c1 => ?_) (fun c1 => ?_)
    · replace h := gif_t h c1
      refine x_sub [0, 1] rfl ?_
      exact hk35 _ _ _ h
    · replace h := gif_f h c1
      refine x_aloadn 8 0 d_Holding_takeAllOf_8 rfl rfl ?_
      replace h := gb1_elim h; obtain ⟨v2, h3, h⟩ := h
      refine x_getR 9 h3 fl_Holding_9 d_Holding_takeAllOf_9 ?_
      refine x_iloadn 12 2 d_Holding_takeAllOf_12 rfl rfl ?_
      refine x_aloadn 13 0 d_Holding_takeAllOf_13 rfl rfl ?_
      replace h := gb1_elim h; obtain ⟨v4, h5, h⟩ := h
      refine x_getR 14 h5 fl_Holding_9 d_Holding_takeAllOf_14 ?_
      refine x_iloadn 17 2 d_Holding_takeAllOf_17 rfl rfl ?_
      replace h := gb1_elim h; obtain ⟨v6, h7, h⟩ := h
      refine x_iald 18 rfl h7 d_Holding_takeAllOf_18 ?_
      refine x_aloadn 19 1 d_Holding_takeAllOf_19 rfl rfl ?_
      replace h := gb1_elim h; obtain ⟨v8, h9, h⟩ := h
      refine x_getR 20 h9 fl_Holding_9 d_Holding_takeAllOf_20 ?_
      refine x_iloadn 23 2 d_Holding_takeAllOf_23 rfl rfl ?_
      replace h := gb1_elim h; obtain ⟨v10, h11, h⟩ := h
      refine x_iald 24 rfl h11 d_Holding_takeAllOf_24 ?_
      refine x_mmax 25 (gT_in1 146 rfl) (gT_in0 140 rfl) (gT_in0 11 rfl) (gT_in0 141 rfl) (by decide) (Nat.le_of_ble_eq_true rfl) d_Holding_takeAllOf_25 ?_
      replace h := gLet_elim h; obtain ⟨x12, ex12, h⟩ := h
      refine x_topi ex12 ?_
      replace h := gb1_elim h; obtain ⟨mm13, h14, h⟩ := h
      refine x_iast 28 (by decide) rfl h14 d_Holding_takeAllOf_28 ?_
      replace h := gLet_elim h; obtain ⟨x15, ex15, h⟩ := h
      refine x_iinc 29 2 (v := x15) (lv' := [(2, .inl x15), (0, .inr (.inr p0)), (1, .inr (.inr p1))]) d_Holding_takeAllOf_29 rfl (by rw [ex15]; rfl) (by decide) rfl ?_
      refine x_goto 32 2 d_Holding_takeAllOf_32 (by decide) ?_
      refine x_sub [1, 2, 0] rfl ?_
      exact ih _ _ _ _ h
def F_Holding_takeAllOf (b : Nat) (a0 : Option Nat) (mm : gM) : Option (Unit × gM) :=
  L_Holding_takeAllOf_2 (fun p0 p1 mm =>
    gb1 (gfL 5 1 p0 mm) fun v16 =>
    gb1 (gfL 5 1 p1 mm) fun v18 =>
    gb1 (gpV 5 1 p0 (.long (v16 ||| v18)) mm) fun mm20 =>
    some ((), mm20)) gF (some b) a0 (0 : Int32) mm
set_option maxHeartbeats 8000000 in
set_option maxRecDepth 100000 in
theorem w_Holding_takeAllOf {l : Launch} {E : gD} {n0 s0 : Nat} {b : Nat} {a0 : Option Nat} {r : Unit} {mm res : gM} (h : F_Holding_takeAllOf b a0 mm = some (r, res)) : xX l E Y_Holding_takeAllOf n0 s0 none res 0 [(0, .inr (.inr (some b))), (1, .inr (.inr a0))] [] mm := by
  unfold F_Holding_takeAllOf at h
  refine x_iconst 0 d_Holding_takeAllOf_0 (v := (0 : Int32)) (by decide +kernel) ?_
  refine x_istoren 1 (lv' := [(2, .inl (0 : Int32)), (0, .inr (.inr (some b))), (1, .inr (.inr a0))]) d_Holding_takeAllOf_1 rfl (by decide) rfl ?_
  refine x_sub [1, 2, 0] rfl ?_
  refine wL_Holding_takeAllOf_2 ?_ gF _ _ _ _ h
  · intro p0 p1 mm h
    refine x_aloadn 35 0 d_Holding_takeAllOf_35 rfl rfl ?_
    refine x_dup 36 d_Holding_takeAllOf_36 rfl ?_
    replace h := gb1_elim h; obtain ⟨v16, h17, h⟩ := h
    refine x_getL 37 h17 fl_Holding_15 d_Holding_takeAllOf_37 ?_
    refine x_aloadn 40 1 d_Holding_takeAllOf_40 rfl rfl ?_
    replace h := gb1_elim h; obtain ⟨v18, h19, h⟩ := h
    refine x_getL 41 h19 fl_Holding_15 d_Holding_takeAllOf_41 ?_
    refine x_lor 44 d_Holding_takeAllOf_44 ?_
    replace h := gb1_elim h; obtain ⟨mm20, h21, h⟩ := h
    refine x_putV 45 fp_Holding_15 rfl rfl h21 d_Holding_takeAllOf_45 ?_
    cases h
    exact x_return 48 rfl d_Holding_takeAllOf_48
theorem k_Holding_takeAllOf {b : Nat} {a0 : Option Nat} {r : Unit} {mm res : gM} (h : F_Holding_takeAllOf b a0 mm = some (r, res)) : ∀ (l : Launch) (E : gD), gLe mm res ∧ gMet l E Y_Holding_takeAllOf y_Holding_takeAllOf [.inr (.inr (some b)), .inr (.inr a0)] none mm res :=
  fun l E => ⟨(w_Holding_takeAllOf (l := l) (E := E) (n0 := 0) (s0 := 0) h).1, x_met (by decide +kernel) rfl rfl rfl (Nat.le_of_ble_eq_true rfl) (w_Holding_takeAllOf h)⟩
theorem d_Arrays_fill_0 : decode b_Arrays_fill 0 = .ok (.iconst 0, 1) := by decide +kernel
theorem d_Arrays_fill_1 : decode b_Arrays_fill 1 = .ok (.istore_n 2, 1) := by decide +kernel
theorem d_Arrays_fill_2 : decode b_Arrays_fill 2 = .ok (.aload_n 0, 1) := by decide +kernel
theorem d_Arrays_fill_3 : decode b_Arrays_fill 3 = .ok (.arraylength, 1) := by decide +kernel
theorem d_Arrays_fill_4 : decode b_Arrays_fill 4 = .ok (.istore_n 3, 1) := by decide +kernel
theorem d_Arrays_fill_5 : decode b_Arrays_fill 5 = .ok (.iload_n 2, 1) := by decide +kernel
theorem d_Arrays_fill_6 : decode b_Arrays_fill 6 = .ok (.iload_n 3, 1) := by decide +kernel
theorem d_Arrays_fill_7 : decode b_Arrays_fill 7 = .ok (.if_icmp .ge 13, 3) := by decide +kernel
theorem d_Arrays_fill_10 : decode b_Arrays_fill 10 = .ok (.aload_n 0, 1) := by decide +kernel
theorem d_Arrays_fill_11 : decode b_Arrays_fill 11 = .ok (.iload_n 2, 1) := by decide +kernel
theorem d_Arrays_fill_12 : decode b_Arrays_fill 12 = .ok (.iload_n 1, 1) := by decide +kernel
theorem d_Arrays_fill_13 : decode b_Arrays_fill 13 = .ok (.iastore, 1) := by decide +kernel
theorem d_Arrays_fill_14 : decode b_Arrays_fill 14 = .ok (.iinc 2 1, 3) := by decide +kernel
theorem d_Arrays_fill_17 : decode b_Arrays_fill 17 = .ok (.goto (-12), 3) := by decide +kernel
theorem d_Arrays_fill_20 : decode b_Arrays_fill 20 = .ok (.return_, 1) := by decide +kernel
def L_Arrays_fill_5 (k20 : gM → Option (Unit × gM)) : Nat → Option Nat → Int32 → Int32 → Int32 → gM → Option (Unit × gM)
  | 0, _, _, _, _, _ => none
  | f + 1, p0, p1, p2, p3, mm =>
    if p3 ≤ p2 then (
      k20  mm)
    else (
      gb1 (gsI 0 p0 p2 p1 mm) fun mm4 =>
      gLet (p2 + 1) fun x6 =>
      L_Arrays_fill_5 k20 f p0 p1 x6 p3 mm4)
set_option maxHeartbeats 4000000 in
set_option maxRecDepth 100000 in
theorem wL_Arrays_fill_5 {l : Launch} {E : gD} {n0 s0 : Nat} {r : Unit} {res : gM} {k20 : gM → Option (Unit × gM)} (hk20 : ∀  (mm : gM), k20  mm = some (r, res) → xX l E Y_Arrays_fill n0 s0 none res 20 [] [] mm) : ∀ (f : Nat) (p0 : Option Nat) (p1 : Int32) (p2 : Int32) (p3 : Int32) (mm : gM), L_Arrays_fill_5 k20 f p0 p1 p2 p3 mm = some (r, res) → xX l E Y_Arrays_fill n0 s0 none res 5 [(0, .inr (.inr p0)), (1, .inl p1), (2, .inl p2), (3, .inl p3)] [] mm := by
  intro f
  induction f with
  | zero =>
    intro p0 p1 p2 p3 mm h
    rw [L_Arrays_fill_5] at h
    cases h
  | succ f ih =>
    intro p0 p1 p2 p3 mm h
    rw [L_Arrays_fill_5] at h
    refine x_iloadn 5 2 d_Arrays_fill_5 rfl rfl ?_
    refine x_iloadn 6 3 d_Arrays_fill_6 rfl rfl ?_
    refine x_icmp_ge 7 20 d_Arrays_fill_7 (by decide) (fun c3 => ?_) (fun c3 => ?_)
    · replace h := gif_t h c3
      refine x_sub [] rfl ?_
      exact hk20 _ h
    · replace h := gif_f h c3
      refine x_aloadn 10 0 d_Arrays_fill_10 rfl rfl ?_
      refine x_iloadn 11 2 d_Arrays_fill_11 rfl rfl ?_
      refine x_iloadn 12 1 d_Arrays_fill_12 rfl rfl ?_
      replace h := gb1_elim h; obtain ⟨mm4, h5, h⟩ := h
      refine x_iast 13 (by decide) rfl h5 d_Arrays_fill_13 ?_
      replace h := gLet_elim h; obtain ⟨x6, ex6, h⟩ := h
      refine x_iinc 14 2 (v := x6) (lv' := [(2, .inl x6), (0, .inr (.inr p0)), (1, .inl p1), (3, .inl p3)]) d_Arrays_fill_14 rfl (by rw [ex6]; rfl) (by decide) rfl ?_
      refine x_goto 17 5 d_Arrays_fill_17 (by decide) ?_
      refine x_sub [1, 2, 0, 3] rfl ?_
      exact ih _ _ _ _ _ h
def F_Arrays_fill (a0 : Option Nat) (a1 : Int32) (mm : gM) : Option (Unit × gM) :=
  gb1 (glen a0 mm) fun v1 =>
  L_Arrays_fill_5 (fun  mm =>
    some ((), mm)) gF a0 a1 (0 : Int32) v1 mm
set_option maxHeartbeats 8000000 in
set_option maxRecDepth 100000 in
theorem w_Arrays_fill {l : Launch} {E : gD} {n0 s0 : Nat} {a0 : Option Nat} {a1 : Int32} {r : Unit} {mm res : gM} (h : F_Arrays_fill a0 a1 mm = some (r, res)) : xX l E Y_Arrays_fill n0 s0 none res 0 [(0, .inr (.inr a0)), (1, .inl a1)] [] mm := by
  unfold F_Arrays_fill at h
  refine x_iconst 0 d_Arrays_fill_0 (v := (0 : Int32)) (by decide +kernel) ?_
  refine x_istoren 1 (lv' := [(2, .inl (0 : Int32)), (0, .inr (.inr a0)), (1, .inl a1)]) d_Arrays_fill_1 rfl (by decide) rfl ?_
  refine x_aloadn 2 1 d_Arrays_fill_2 rfl rfl ?_
  replace h := gb1_elim h; obtain ⟨v1, h2, h⟩ := h
  refine x_alen 3 h2 d_Arrays_fill_3 ?_
  refine x_istoren 4 (lv' := [(3, .inl v1), (2, .inl (0 : Int32)), (0, .inr (.inr a0)), (1, .inl a1)]) d_Arrays_fill_4 rfl (by decide) rfl ?_
  refine x_sub [2, 3, 1, 0] rfl ?_
  refine wL_Arrays_fill_5 ?_ gF _ _ _ _ _ h
  · intro  mm h
    cases h
    exact x_return 20 rfl d_Arrays_fill_20
theorem k_Arrays_fill {a0 : Option Nat} {a1 : Int32} {r : Unit} {mm res : gM} (h : F_Arrays_fill a0 a1 mm = some (r, res)) : ∀ (l : Launch) (E : gD), gLe mm res ∧ gMet l E Y_Arrays_fill y_Arrays_fill [.inr (.inr a0), .inl a1] none mm res :=
  fun l E => ⟨(w_Arrays_fill (l := l) (E := E) (n0 := 0) (s0 := 0) h).1, x_met (by decide +kernel) rfl rfl rfl (Nat.le_of_ble_eq_true rfl) (w_Arrays_fill h)⟩
theorem d_Current_clear_0 : decode b_Current_clear 0 = .ok (.aload_n 0, 1) := by decide +kernel
theorem d_Current_clear_1 : decode b_Current_clear 1 = .ok (.getfield 9, 3) := by decide +kernel
theorem d_Current_clear_4 : decode b_Current_clear 4 = .ok (.iconst 0, 1) := by decide +kernel
theorem d_Current_clear_5 : decode b_Current_clear 5 = .ok (.invokestatic 19, 3) := by decide +kernel
theorem d_Current_clear_8 : decode b_Current_clear 8 = .ok (.return_, 1) := by decide +kernel
def F_Current_clear (b : Nat) (mm : gM) : Option (Unit × gM) :=
  gb1 (gfR 8 0 (some b) mm) fun v1 =>
  gb2 (F_Arrays_fill v1 (0 : Int32) mm) fun v3 mm4 =>
  some ((), mm4)
set_option maxHeartbeats 8000000 in
set_option maxRecDepth 100000 in
theorem w_Current_clear {l : Launch} {E : gD} {n0 s0 : Nat} {b : Nat} {r : Unit} {mm res : gM} (h : F_Current_clear b mm = some (r, res)) : xX l E Y_Current_clear n0 s0 none res 0 [(0, .inr (.inr (some b)))] [] mm := by
  unfold F_Current_clear at h
  refine x_aloadn 0 0 d_Current_clear_0 rfl rfl ?_
  replace h := gb1_elim h; obtain ⟨v1, h2, h⟩ := h
  refine x_getR 1 h2 fl_Current_9 d_Current_clear_1 ?_
  refine x_iconst 4 d_Current_clear_4 (v := (0 : Int32)) (by decide +kernel) ?_
  replace h := gb2_elim h; obtain ⟨v3, mm4, h5, h⟩ := h
  refine x_callS 5 2 (as := [.inr (.inr v1), .inl (0 : Int32)]) (st' := []) (rs := []) (k_Arrays_fill h5) rfl cf_Current_19 ⟨rfl, by decide +kernel, by decide, by decide, Nat.le_of_ble_eq_true rfl⟩ rfl d_Current_clear_5 ?_
  cases h
  exact x_return 8 rfl d_Current_clear_8
theorem k_Current_clear {b : Nat} {r : Unit} {mm res : gM} (h : F_Current_clear b mm = some (r, res)) : ∀ (l : Launch) (E : gD), gLe mm res ∧ gMet l E Y_Current_clear y_Current_clear [.inr (.inr (some b))] none mm res :=
  fun l E => ⟨(w_Current_clear (l := l) (E := E) (n0 := 0) (s0 := 0) h).1, x_met (by decide +kernel) rfl rfl rfl (Nat.le_of_ble_eq_true rfl) (w_Current_clear h)⟩
theorem d_Holding_has_0 : decode b_Holding_has 0 = .ok (.aload_n 1, 1) := by decide +kernel
theorem d_Holding_has_1 : decode b_Holding_has 1 = .ok (.getfield 19, 3) := by decide +kernel
theorem d_Holding_has_4 : decode b_Holding_has 4 = .ok (.aload_n 0, 1) := by decide +kernel
theorem d_Holding_has_5 : decode b_Holding_has 5 = .ok (.getfield 9, 3) := by decide +kernel
theorem d_Holding_has_8 : decode b_Holding_has 8 = .ok (.aload_n 1, 1) := by decide +kernel
theorem d_Holding_has_9 : decode b_Holding_has 9 = .ok (.getfield 25, 3) := by decide +kernel
theorem d_Holding_has_12 : decode b_Holding_has 12 = .ok (.iaload, 1) := by decide +kernel
theorem d_Holding_has_13 : decode b_Holding_has 13 = .ok (.if_icmp .ge 7, 3) := by decide +kernel
theorem d_Holding_has_16 : decode b_Holding_has 16 = .ok (.iconst 1, 1) := by decide +kernel
theorem d_Holding_has_17 : decode b_Holding_has 17 = .ok (.goto 4, 3) := by decide +kernel
theorem d_Holding_has_20 : decode b_Holding_has 20 = .ok (.iconst 0, 1) := by decide +kernel
theorem d_Holding_has_21 : decode b_Holding_has 21 = .ok (.ireturn, 1) := by decide +kernel
def F_Holding_has (b : Nat) (a0 : Option Nat) (mm : gM) : Option (Int32 × gM) :=
  gb1 (gfI 7 1 a0 mm) fun v1 =>
  gb1 (gfR 5 0 (some b) mm) fun v3 =>
  gb1 (gfI 7 0 a0 mm) fun v5 =>
  gb1 (gaI 0 v3 v5 mm) fun v7 =>
  if v7 ≤ v1 then (
    some ((0 : Int32), mm))
  else (
    some ((1 : Int32), mm))
set_option maxHeartbeats 8000000 in
set_option maxRecDepth 100000 in
theorem w_Holding_has {l : Launch} {E : gD} {n0 s0 : Nat} {b : Nat} {a0 : Option Nat} {r : Int32} {mm res : gM} (h : F_Holding_has b a0 mm = some (r, res)) : xX l E Y_Holding_has n0 s0 (some (.int r)) res 0 [(0, .inr (.inr (some b))), (1, .inr (.inr a0))] [] mm := by
  unfold F_Holding_has at h
  refine x_aloadn 0 1 d_Holding_has_0 rfl rfl ?_
  replace h := gb1_elim h; obtain ⟨v1, h2, h⟩ := h
  refine x_getI 1 h2 fl_Holding_19 d_Holding_has_1 ?_
  refine x_aloadn 4 0 d_Holding_has_4 rfl rfl ?_
  replace h := gb1_elim h; obtain ⟨v3, h4, h⟩ := h
  refine x_getR 5 h4 fl_Holding_9 d_Holding_has_5 ?_
  refine x_aloadn 8 1 d_Holding_has_8 rfl rfl ?_
  replace h := gb1_elim h; obtain ⟨v5, h6, h⟩ := h
  refine x_getI 9 h6 fl_Holding_25 d_Holding_has_9 ?_
  replace h := gb1_elim h; obtain ⟨v7, h8, h⟩ := h
  refine x_iald 12 rfl h8 d_Holding_has_12 ?_
  refine x_icmp_ge 13 20 d_Holding_has_13 (by decide) (fun c9 => ?_) (fun c9 => ?_)
  · replace h := gif_t h c9
    refine x_iconst 20 d_Holding_has_20 (v := (0 : Int32)) (by decide +kernel) ?_
    cases h
    exact x_zreturn 21 (by decide) rfl d_Holding_has_21
  · replace h := gif_f h c9
    refine x_iconst 16 d_Holding_has_16 (v := (1 : Int32)) (by decide +kernel) ?_
    refine x_goto 17 21 d_Holding_has_17 (by decide) ?_
    cases h
    exact x_zreturn 21 (by decide) rfl d_Holding_has_21
theorem k_Holding_has {b : Nat} {a0 : Option Nat} {r : Int32} {mm res : gM} (h : F_Holding_has b a0 mm = some (r, res)) : ∀ (l : Launch) (E : gD), gLe mm res ∧ gMet l E Y_Holding_has y_Holding_has [.inr (.inr (some b)), .inr (.inr a0)] (some (.int r)) mm res :=
  fun l E => ⟨(w_Holding_has (l := l) (E := E) (n0 := 0) (s0 := 0) h).1, x_met (by decide +kernel) rfl rfl rfl (Nat.le_of_ble_eq_true rfl) (w_Holding_has h)⟩
theorem d_Current_offer_0 : decode b_Current_offer 0 = .ok (.aload_n 1, 1) := by decide +kernel
theorem d_Current_offer_1 : decode b_Current_offer 1 = .ok (.getfield 25, 3) := by decide +kernel
theorem d_Current_offer_4 : decode b_Current_offer 4 = .ok (.aload_n 0, 1) := by decide +kernel
theorem d_Current_offer_5 : decode b_Current_offer 5 = .ok (.getfield 9, 3) := by decide +kernel
theorem d_Current_offer_8 : decode b_Current_offer 8 = .ok (.aload_n 1, 1) := by decide +kernel
theorem d_Current_offer_9 : decode b_Current_offer 9 = .ok (.getfield 31, 3) := by decide +kernel
theorem d_Current_offer_12 : decode b_Current_offer 12 = .ok (.iaload, 1) := by decide +kernel
theorem d_Current_offer_13 : decode b_Current_offer 13 = .ok (.if_icmp .le 29, 3) := by decide +kernel
theorem d_Current_offer_16 : decode b_Current_offer 16 = .ok (.aload_n 0, 1) := by decide +kernel
theorem d_Current_offer_17 : decode b_Current_offer 17 = .ok (.getfield 9, 3) := by decide +kernel
theorem d_Current_offer_20 : decode b_Current_offer 20 = .ok (.aload_n 1, 1) := by decide +kernel
theorem d_Current_offer_21 : decode b_Current_offer 21 = .ok (.getfield 31, 3) := by decide +kernel
theorem d_Current_offer_24 : decode b_Current_offer 24 = .ok (.aload_n 1, 1) := by decide +kernel
theorem d_Current_offer_25 : decode b_Current_offer 25 = .ok (.getfield 25, 3) := by decide +kernel
theorem d_Current_offer_28 : decode b_Current_offer 28 = .ok (.iastore, 1) := by decide +kernel
theorem d_Current_offer_29 : decode b_Current_offer 29 = .ok (.aload_n 0, 1) := by decide +kernel
theorem d_Current_offer_30 : decode b_Current_offer 30 = .ok (.getfield 15, 3) := by decide +kernel
theorem d_Current_offer_33 : decode b_Current_offer 33 = .ok (.aload_n 1, 1) := by decide +kernel
theorem d_Current_offer_34 : decode b_Current_offer 34 = .ok (.getfield 31, 3) := by decide +kernel
theorem d_Current_offer_37 : decode b_Current_offer 37 = .ok (.aload_n 1, 1) := by decide +kernel
theorem d_Current_offer_38 : decode b_Current_offer 38 = .ok (.getfield 34, 3) := by decide +kernel
theorem d_Current_offer_41 : decode b_Current_offer 41 = .ok (.lastore, 1) := by decide +kernel
theorem d_Current_offer_42 : decode b_Current_offer 42 = .ok (.return_, 1) := by decide +kernel
def F_Current_offer (b : Nat) (a0 : Option Nat) (mm : gM) : Option (Unit × gM) :=
  gb1 (gfI 7 2 a0 mm) fun v1 =>
  gb1 (gfR 8 0 (some b) mm) fun v3 =>
  gb1 (gfI 7 0 a0 mm) fun v5 =>
  gb1 (gaI 0 v3 v5 mm) fun v7 =>
  if v1 ≤ v7 then (
    some ((), mm))
  else (
    gb1 (gfR 8 0 (some b) mm) fun v10 =>
    gb1 (gfI 7 0 a0 mm) fun v12 =>
    gb1 (gfI 7 2 a0 mm) fun v14 =>
    gb1 (gsI 0 v10 v12 v14 mm) fun mm16 =>
    gb1 (gfR 8 1 (some b) mm16) fun v18 =>
    gb1 (gfI 7 0 a0 mm16) fun v20 =>
    gb1 (gfL 7 4 a0 mm16) fun v22 =>
    gb1 (gsL 1 v18 v20 v22 mm16) fun mm24 =>
    some ((), mm24))
set_option maxHeartbeats 8000000 in
set_option maxRecDepth 100000 in
theorem w_Current_offer {l : Launch} {E : gD} {n0 s0 : Nat} {b : Nat} {a0 : Option Nat} {r : Unit} {mm res : gM} (h : F_Current_offer b a0 mm = some (r, res)) : xX l E Y_Current_offer n0 s0 none res 0 [(0, .inr (.inr (some b))), (1, .inr (.inr a0))] [] mm := by
  unfold F_Current_offer at h
  refine x_aloadn 0 1 d_Current_offer_0 rfl rfl ?_
  replace h := gb1_elim h; obtain ⟨v1, h2, h⟩ := h
  refine x_getI 1 h2 fl_Current_25 d_Current_offer_1 ?_
  refine x_aloadn 4 0 d_Current_offer_4 rfl rfl ?_
  replace h := gb1_elim h; obtain ⟨v3, h4, h⟩ := h
  refine x_getR 5 h4 fl_Current_9 d_Current_offer_5 ?_
  refine x_aloadn 8 1 d_Current_offer_8 rfl rfl ?_
  replace h := gb1_elim h; obtain ⟨v5, h6, h⟩ := h
  refine x_getI 9 h6 fl_Current_31 d_Current_offer_9 ?_
  replace h := gb1_elim h; obtain ⟨v7, h8, h⟩ := h
  refine x_iald 12 rfl h8 d_Current_offer_12 ?_
  refine x_icmp_le 13 42 d_Current_offer_13 (by decide) (fun c9 => ?_) (fun c9 => ?_)
  · replace h := gif_t h c9
    cases h
    exact x_return 42 rfl d_Current_offer_42
  · replace h := gif_f h c9
    refine x_aloadn 16 0 d_Current_offer_16 rfl rfl ?_
    replace h := gb1_elim h; obtain ⟨v10, h11, h⟩ := h
    refine x_getR 17 h11 fl_Current_9 d_Current_offer_17 ?_
    refine x_aloadn 20 1 d_Current_offer_20 rfl rfl ?_
    replace h := gb1_elim h; obtain ⟨v12, h13, h⟩ := h
    refine x_getI 21 h13 fl_Current_31 d_Current_offer_21 ?_
    refine x_aloadn 24 1 d_Current_offer_24 rfl rfl ?_
    replace h := gb1_elim h; obtain ⟨v14, h15, h⟩ := h
    refine x_getI 25 h15 fl_Current_25 d_Current_offer_25 ?_
    replace h := gb1_elim h; obtain ⟨mm16, h17, h⟩ := h
    refine x_iast 28 (by decide) rfl h17 d_Current_offer_28 ?_
    refine x_aloadn 29 0 d_Current_offer_29 rfl rfl ?_
    replace h := gb1_elim h; obtain ⟨v18, h19, h⟩ := h
    refine x_getR 30 h19 fl_Current_15 d_Current_offer_30 ?_
    refine x_aloadn 33 1 d_Current_offer_33 rfl rfl ?_
    replace h := gb1_elim h; obtain ⟨v20, h21, h⟩ := h
    refine x_getI 34 h21 fl_Current_31 d_Current_offer_34 ?_
    refine x_aloadn 37 1 d_Current_offer_37 rfl rfl ?_
    replace h := gb1_elim h; obtain ⟨v22, h23, h⟩ := h
    refine x_getL 38 h23 fl_Current_34 d_Current_offer_38 ?_
    replace h := gb1_elim h; obtain ⟨mm24, h25, h⟩ := h
    refine x_last 41 (by decide) rfl h25 d_Current_offer_41 ?_
    cases h
    exact x_return 42 rfl d_Current_offer_42
theorem k_Current_offer {b : Nat} {a0 : Option Nat} {r : Unit} {mm res : gM} (h : F_Current_offer b a0 mm = some (r, res)) : ∀ (l : Launch) (E : gD), gLe mm res ∧ gMet l E Y_Current_offer y_Current_offer [.inr (.inr (some b)), .inr (.inr a0)] none mm res :=
  fun l E => ⟨(w_Current_offer (l := l) (E := E) (n0 := 0) (s0 := 0) h).1, x_met (by decide +kernel) rfl rfl rfl (Nat.le_of_ble_eq_true rfl) (w_Current_offer h)⟩
