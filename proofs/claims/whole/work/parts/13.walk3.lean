-- Teller_toldWith Telling_says Telling_init AL_rangeCheckForAdd AL_add3 Teller_keep
theorem d_Teller_toldWith_0 : decode b_Teller_toldWith 0 = .ok (.aload_n 0, 1) := by decide +kernel
theorem d_Teller_toldWith_1 : decode b_Teller_toldWith 1 = .ok (.iload_n 1, 1) := by decide +kernel
theorem d_Teller_toldWith_2 : decode b_Teller_toldWith 2 = .ok (.invokevirtual 50, 3) := by decide +kernel
theorem d_Teller_toldWith_5 : decode b_Teller_toldWith 5 = .ok (.istore_n 2, 1) := by decide +kernel
theorem d_Teller_toldWith_6 : decode b_Teller_toldWith 6 = .ok (.iload_n 2, 1) := by decide +kernel
theorem d_Teller_toldWith_7 : decode b_Teller_toldWith 7 = .ok (.aload_n 0, 1) := by decide +kernel
theorem d_Teller_toldWith_8 : decode b_Teller_toldWith 8 = .ok (.getfield 12, 3) := by decide +kernel
theorem d_Teller_toldWith_11 : decode b_Teller_toldWith 11 = .ok (.invokevirtual 36, 3) := by decide +kernel
theorem d_Teller_toldWith_14 : decode b_Teller_toldWith 14 = .ok (.if_icmp .lt 5, 3) := by decide +kernel
theorem d_Teller_toldWith_17 : decode b_Teller_toldWith 17 = .ok (.aconst_null, 1) := by decide +kernel
theorem d_Teller_toldWith_18 : decode b_Teller_toldWith 18 = .ok (.areturn, 1) := by decide +kernel
theorem d_Teller_toldWith_19 : decode b_Teller_toldWith 19 = .ok (.aload_n 0, 1) := by decide +kernel
theorem d_Teller_toldWith_20 : decode b_Teller_toldWith 20 = .ok (.getfield 12, 3) := by decide +kernel
theorem d_Teller_toldWith_23 : decode b_Teller_toldWith 23 = .ok (.iload_n 2, 1) := by decide +kernel
theorem d_Teller_toldWith_24 : decode b_Teller_toldWith 24 = .ok (.invokevirtual 40, 3) := by decide +kernel
theorem d_Teller_toldWith_27 : decode b_Teller_toldWith 27 = .ok (.checkcast 44, 3) := by decide +kernel
theorem d_Teller_toldWith_30 : decode b_Teller_toldWith 30 = .ok (.astore_n 3, 1) := by decide +kernel
theorem d_Teller_toldWith_31 : decode b_Teller_toldWith 31 = .ok (.aload_n 3, 1) := by decide +kernel
theorem d_Teller_toldWith_32 : decode b_Teller_toldWith 32 = .ok (.getfield 46, 3) := by decide +kernel
theorem d_Teller_toldWith_35 : decode b_Teller_toldWith 35 = .ok (.iload_n 1, 1) := by decide +kernel
theorem d_Teller_toldWith_36 : decode b_Teller_toldWith 36 = .ok (.if_icmp .ne 7, 3) := by decide +kernel
theorem d_Teller_toldWith_39 : decode b_Teller_toldWith 39 = .ok (.aload_n 3, 1) := by decide +kernel
theorem d_Teller_toldWith_40 : decode b_Teller_toldWith 40 = .ok (.goto 4, 3) := by decide +kernel
theorem d_Teller_toldWith_43 : decode b_Teller_toldWith 43 = .ok (.aconst_null, 1) := by decide +kernel
theorem d_Teller_toldWith_44 : decode b_Teller_toldWith 44 = .ok (.areturn, 1) := by decide +kernel
def F_Teller_toldWith (b : Nat) (a0 : Int32) (mm : gM) : Option (Option Nat × gM) :=
  gb1 (grc 1 (some b) mm) fun b4 =>
  gb2 (F_Teller_placeOf b4 a0 mm) fun v1 mm2 =>
  gb1 (gfR 1 0 (some b) mm2) fun v6 =>
  gb1 (grc 9 v6 mm2) fun b11 =>
  gb2 (F_AL_size b11  mm2) fun v8 mm9 =>
  if v1 < v8 then (
    gb1 (gfR 1 0 (some b) mm9) fun v14 =>
    gb1 (grc 9 v14 mm9) fun b19 =>
    gb2 (F_AL_get b19 v1 mm9) fun v16 mm17 =>
    gb1 (gcs 7 v16 mm17) fun u21 =>
    gb1 (gfI 7 2 v16 mm17) fun v23 =>
    if v23 = a0 then (
      some (v16, mm17))
    else (
      some (none, mm17)))
  else (
    some (none, mm9))
set_option maxHeartbeats 8000000 in
set_option maxRecDepth 100000 in
theorem w_Teller_toldWith {l : Launch} {E : gD} {n0 s0 : Nat} {b : Nat} {a0 : Int32} {r : Option Nat} {mm res : gM} (h : F_Teller_toldWith b a0 mm = some (r, res)) : xX l E Y_Teller_toldWith n0 s0 (some (va_rf r)) res 0 [(0, .inr (.inr (some b))), (1, .inl a0)] [] mm := by
  unfold F_Teller_toldWith at h
  refine x_aloadn 0 0 d_Teller_toldWith_0 rfl rfl ?_
  refine x_iloadn 1 1 d_Teller_toldWith_1 rfl rfl ?_
  replace h := gb1_elim h; obtain ⟨b4, h5, h⟩ := h
  replace h := gb2_elim h; obtain ⟨v1, mm2, h3, h⟩ := h
  refine x_callV 2 1 (as := [.inl a0]) (st' := []) (rs := [.inl v1]) (k_Teller_placeOf h3) rfl cf_Teller_50 ⟨rfl, by decide +kernel, by decide, by decide, Nat.le_of_ble_eq_true rfl⟩ h5 rfl d_Teller_toldWith_2 ?_
  refine x_istoren 5 (lv' := [(2, .inl v1), (0, .inr (.inr (some b))), (1, .inl a0)]) d_Teller_toldWith_5 rfl (by decide) rfl ?_
  refine x_iloadn 6 0 d_Teller_toldWith_6 rfl rfl ?_
  refine x_aloadn 7 1 d_Teller_toldWith_7 rfl rfl ?_
  replace h := gb1_elim h; obtain ⟨v6, h7, h⟩ := h
  refine x_getR 8 h7 fl_Teller_12 d_Teller_toldWith_8 ?_
  replace h := gb1_elim h; obtain ⟨b11, h12, h⟩ := h
  replace h := gb2_elim h; obtain ⟨v8, mm9, h10, h⟩ := h
  refine x_callV 11 0 (as := []) (st' := [.inl v1]) (rs := [.inl v8]) (k_AL_size h10) rfl cf_Teller_36 ⟨rfl, by decide +kernel, by decide, by decide, Nat.le_of_ble_eq_true rfl⟩ h12 rfl d_Teller_toldWith_11 ?_
  refine x_icmp_lt 14 19 d_Teller_toldWith_14 (by decide) (fun c13 => ?_) (fun c13 => ?_)
  · replace h := gif_t h c13
    refine x_aloadn 19 1 d_Teller_toldWith_19 rfl rfl ?_
    replace h := gb1_elim h; obtain ⟨v14, h15, h⟩ := h
    refine x_getR 20 h15 fl_Teller_12 d_Teller_toldWith_20 ?_
    refine x_iloadn 23 0 d_Teller_toldWith_23 rfl rfl ?_
    replace h := gb1_elim h; obtain ⟨b19, h20, h⟩ := h
    replace h := gb2_elim h; obtain ⟨v16, mm17, h18, h⟩ := h
    refine x_callV 24 1 (as := [.inl v1]) (st' := []) (rs := [.inr (.inr v16)]) (k_AL_get h18) rfl cf_Teller_40 ⟨rfl, by decide +kernel, by decide, by decide, Nat.le_of_ble_eq_true rfl⟩ h20 rfl d_Teller_toldWith_24 ?_
    replace h := gb1_elim h; obtain ⟨u21, h22, h⟩ := h
    refine x_cast 27 h22 (show gCl[7]? = some (R_Telling, T_Telling, 7) from rfl) (gT_in1 75 rfl) d_Teller_toldWith_27 ?_
    refine x_astoren 30 (lv' := [(3, .inr (.inr v16)), (2, .inl v1), (0, .inr (.inr (some b))), (1, .inl a0)]) d_Teller_toldWith_30 rfl (by decide) rfl ?_
    refine x_aloadn 31 0 d_Teller_toldWith_31 rfl rfl ?_
    replace h := gb1_elim h; obtain ⟨v23, h24, h⟩ := h
    refine x_getI 32 h24 fl_Teller_46 d_Teller_toldWith_32 ?_
    refine x_iloadn 35 3 d_Teller_toldWith_35 rfl rfl ?_
    refine x_icmp_ne 36 43 d_Teller_toldWith_36 (by decide) (fun c25 => ?_) (fun c25 => ?_)
    · replace h := gif_t h c25
      refine x_aloadn 39 0 d_Teller_toldWith_39 rfl rfl ?_
      refine x_goto 40 44 d_Teller_toldWith_40 (by decide) ?_
      cases h
      exact x_areturn 44 rfl (Or.inl ⟨_, rfl⟩) d_Teller_toldWith_44
    · replace h := gif_f h c25
      refine x_null 43 d_Teller_toldWith_43 ?_
      cases h
      exact x_areturn 44 rfl (Or.inl ⟨_, rfl⟩) d_Teller_toldWith_44
  · replace h := gif_f h c13
    refine x_null 17 d_Teller_toldWith_17 ?_
    cases h
    exact x_areturn 18 rfl (Or.inl ⟨_, rfl⟩) d_Teller_toldWith_18
theorem k_Teller_toldWith {b : Nat} {a0 : Int32} {r : Option Nat} {mm res : gM} (h : F_Teller_toldWith b a0 mm = some (r, res)) : ∀ (l : Launch) (E : gD), gLe mm res ∧ gMet l E Y_Teller_toldWith y_Teller_toldWith [.inr (.inr (some b)), .inl a0] (some (va_rf r)) mm res :=
  fun l E => ⟨(w_Teller_toldWith (l := l) (E := E) (n0 := 0) (s0 := 0) h).1, x_met (by decide +kernel) rfl rfl rfl (Nat.le_of_ble_eq_true rfl) (w_Teller_toldWith h)⟩
theorem d_Telling_says_0 : decode b_Telling_says 0 = .ok (.aload_n 0, 1) := by decide +kernel
theorem d_Telling_says_1 : decode b_Telling_says 1 = .ok (.getfield 19, 3) := by decide +kernel
theorem d_Telling_says_4 : decode b_Telling_says 4 = .ok (.iload_n 1, 1) := by decide +kernel
theorem d_Telling_says_5 : decode b_Telling_says 5 = .ok (.if_icmp .ne 25, 3) := by decide +kernel
theorem d_Telling_says_8 : decode b_Telling_says 8 = .ok (.aload_n 0, 1) := by decide +kernel
theorem d_Telling_says_9 : decode b_Telling_says 9 = .ok (.getfield 22, 3) := by decide +kernel
theorem d_Telling_says_12 : decode b_Telling_says 12 = .ok (.lload_n 2, 1) := by decide +kernel
theorem d_Telling_says_13 : decode b_Telling_says 13 = .ok (.lcmp, 1) := by decide +kernel
theorem d_Telling_says_14 : decode b_Telling_says 14 = .ok (.ifCond .ne 16, 3) := by decide +kernel
theorem d_Telling_says_17 : decode b_Telling_says 17 = .ok (.aload_n 0, 1) := by decide +kernel
theorem d_Telling_says_18 : decode b_Telling_says 18 = .ok (.getfield 26, 3) := by decide +kernel
theorem d_Telling_says_21 : decode b_Telling_says 21 = .ok (.iload 4, 2) := by decide +kernel
theorem d_Telling_says_23 : decode b_Telling_says 23 = .ok (.if_icmp .ne 7, 3) := by decide +kernel
theorem d_Telling_says_26 : decode b_Telling_says 26 = .ok (.iconst 1, 1) := by decide +kernel
theorem d_Telling_says_27 : decode b_Telling_says 27 = .ok (.goto 4, 3) := by decide +kernel
theorem d_Telling_says_30 : decode b_Telling_says 30 = .ok (.iconst 0, 1) := by decide +kernel
theorem d_Telling_says_31 : decode b_Telling_says 31 = .ok (.ireturn, 1) := by decide +kernel
def F_Telling_says (b : Nat) (a0 : Int32) (a1 : Int64) (a2 : Int32) (mm : gM) : Option (Int32 × gM) :=
  gb1 (gfI 7 3 (some b) mm) fun v1 =>
  if v1 = a0 then (
    gb1 (gfL 7 4 (some b) mm) fun v4 =>
    if v4 = a1 then (
      gb1 (gfI 7 5 (some b) mm) fun v7 =>
      if v7 = a2 then (
        some ((1 : Int32), mm))
      else (
        some ((0 : Int32), mm)))
    else (
      some ((0 : Int32), mm)))
  else (
    some ((0 : Int32), mm))
set_option maxHeartbeats 8000000 in
set_option maxRecDepth 100000 in
theorem w_Telling_says {l : Launch} {E : gD} {n0 s0 : Nat} {b : Nat} {a0 : Int32} {a1 : Int64} {a2 : Int32} {r : Int32} {mm res : gM} (h : F_Telling_says b a0 a1 a2 mm = some (r, res)) : xX l E Y_Telling_says n0 s0 (some (.int r)) res 0 [(0, .inr (.inr (some b))), (1, .inl a0), (2, .inr (.inl a1)), (4, .inl a2)] [] mm := by
  unfold F_Telling_says at h
  refine x_aloadn 0 0 d_Telling_says_0 rfl rfl ?_
  replace h := gb1_elim h; obtain ⟨v1, h2, h⟩ := h
  refine x_getI 1 h2 fl_Telling_19 d_Telling_says_1 ?_
  refine x_iloadn 4 1 d_Telling_says_4 rfl rfl ?_
  refine x_icmp_ne 5 30 d_Telling_says_5 (by decide) (fun c3 => ?_) (fun c3 => ?_)
  · replace h := gif_t h c3
    refine x_aloadn 8 0 d_Telling_says_8 rfl rfl ?_
    replace h := gb1_elim h; obtain ⟨v4, h5, h⟩ := h
    refine x_getL 9 h5 fl_Telling_22 d_Telling_says_9 ?_
    refine x_lloadn 12 2 d_Telling_says_12 rfl rfl ?_
    refine x_lc_ne 13 30 d_Telling_says_13 d_Telling_says_14 (by decide) (fun c6 => ?_) (fun c6 => ?_)
    · replace h := gif_t h c6
      refine x_aloadn 17 0 d_Telling_says_17 rfl rfl ?_
      replace h := gb1_elim h; obtain ⟨v7, h8, h⟩ := h
      refine x_getI 18 h8 fl_Telling_26 d_Telling_says_18 ?_
      refine x_iload 21 3 d_Telling_says_21 rfl ?_
      refine x_icmp_ne 23 30 d_Telling_says_23 (by decide) (fun c9 => ?_) (fun c9 => ?_)
      · replace h := gif_t h c9
        refine x_iconst 26 d_Telling_says_26 (v := (1 : Int32)) (by decide +kernel) ?_
        refine x_goto 27 31 d_Telling_says_27 (by decide) ?_
        cases h
        exact x_zreturn 31 (by decide) rfl d_Telling_says_31
      · replace h := gif_f h c9
        refine x_iconst 30 d_Telling_says_30 (v := (0 : Int32)) (by decide +kernel) ?_
        cases h
        exact x_zreturn 31 (by decide) rfl d_Telling_says_31
    · replace h := gif_f h c6
      refine x_iconst 30 d_Telling_says_30 (v := (0 : Int32)) (by decide +kernel) ?_
      cases h
      exact x_zreturn 31 (by decide) rfl d_Telling_says_31
  · replace h := gif_f h c3
    refine x_iconst 30 d_Telling_says_30 (v := (0 : Int32)) (by decide +kernel) ?_
    cases h
    exact x_zreturn 31 (by decide) rfl d_Telling_says_31
theorem k_Telling_says {b : Nat} {a0 : Int32} {a1 : Int64} {a2 : Int32} {r : Int32} {mm res : gM} (h : F_Telling_says b a0 a1 a2 mm = some (r, res)) : ∀ (l : Launch) (E : gD), gLe mm res ∧ gMet l E Y_Telling_says y_Telling_says [.inr (.inr (some b)), .inl a0, .inr (.inl a1), .inl a2] (some (.int r)) mm res :=
  fun l E => ⟨(w_Telling_says (l := l) (E := E) (n0 := 0) (s0 := 0) h).1, x_met (by decide +kernel) rfl rfl rfl (Nat.le_of_ble_eq_true rfl) (w_Telling_says h)⟩
theorem d_Telling_init_0 : decode b_Telling_init 0 = .ok (.aload_n 0, 1) := by decide +kernel
theorem d_Telling_init_1 : decode b_Telling_init 1 = .ok (.invokespecial 1, 3) := by decide +kernel
theorem d_Telling_init_4 : decode b_Telling_init 4 = .ok (.aload_n 0, 1) := by decide +kernel
theorem d_Telling_init_5 : decode b_Telling_init 5 = .ok (.iload_n 1, 1) := by decide +kernel
theorem d_Telling_init_6 : decode b_Telling_init 6 = .ok (.putfield 7, 3) := by decide +kernel
theorem d_Telling_init_9 : decode b_Telling_init 9 = .ok (.aload_n 0, 1) := by decide +kernel
theorem d_Telling_init_10 : decode b_Telling_init 10 = .ok (.iload_n 2, 1) := by decide +kernel
theorem d_Telling_init_11 : decode b_Telling_init 11 = .ok (.putfield 13, 3) := by decide +kernel
theorem d_Telling_init_14 : decode b_Telling_init 14 = .ok (.aload_n 0, 1) := by decide +kernel
theorem d_Telling_init_15 : decode b_Telling_init 15 = .ok (.iload_n 3, 1) := by decide +kernel
theorem d_Telling_init_16 : decode b_Telling_init 16 = .ok (.putfield 16, 3) := by decide +kernel
theorem d_Telling_init_19 : decode b_Telling_init 19 = .ok (.aload_n 0, 1) := by decide +kernel
theorem d_Telling_init_20 : decode b_Telling_init 20 = .ok (.iload 4, 2) := by decide +kernel
theorem d_Telling_init_22 : decode b_Telling_init 22 = .ok (.putfield 19, 3) := by decide +kernel
theorem d_Telling_init_25 : decode b_Telling_init 25 = .ok (.aload_n 0, 1) := by decide +kernel
theorem d_Telling_init_26 : decode b_Telling_init 26 = .ok (.lload 5, 2) := by decide +kernel
theorem d_Telling_init_28 : decode b_Telling_init 28 = .ok (.putfield 22, 3) := by decide +kernel
theorem d_Telling_init_31 : decode b_Telling_init 31 = .ok (.aload_n 0, 1) := by decide +kernel
theorem d_Telling_init_32 : decode b_Telling_init 32 = .ok (.iload 7, 2) := by decide +kernel
theorem d_Telling_init_34 : decode b_Telling_init 34 = .ok (.putfield 26, 3) := by decide +kernel
theorem d_Telling_init_37 : decode b_Telling_init 37 = .ok (.aload_n 0, 1) := by decide +kernel
theorem d_Telling_init_38 : decode b_Telling_init 38 = .ok (.aload 8, 2) := by decide +kernel
theorem d_Telling_init_40 : decode b_Telling_init 40 = .ok (.putfield 29, 3) := by decide +kernel
theorem d_Telling_init_43 : decode b_Telling_init 43 = .ok (.return_, 1) := by decide +kernel
def F_Telling_init (b : Nat) (a0 : Int32) (a1 : Int32) (a2 : Int32) (a3 : Int32) (a4 : Int64) (a5 : Int32) (a6 : Option Nat) (mm : gM) : Option (Unit × gM) :=
  gb1 (gpV 7 0 (some b) (.int a0) mm) fun mm1 =>
  gb1 (gpV 7 1 (some b) (.int a1) mm1) fun mm3 =>
  gb1 (gpV 7 2 (some b) (.int a2) mm3) fun mm5 =>
  gb1 (gpV 7 3 (some b) (.int a3) mm5) fun mm7 =>
  gb1 (gpV 7 4 (some b) (.long a4) mm7) fun mm9 =>
  gb1 (gpV 7 5 (some b) (.int a5) mm9) fun mm11 =>
  gb1 (gpV 7 6 (some b) (va_rf a6) mm11) fun mm13 =>
  some ((), mm13)
set_option maxHeartbeats 8000000 in
set_option maxRecDepth 100000 in
theorem w_Telling_init {l : Launch} {E : gD} {n0 s0 : Nat} {b : Nat} {a0 : Int32} {a1 : Int32} {a2 : Int32} {a3 : Int32} {a4 : Int64} {a5 : Int32} {a6 : Option Nat} {r : Unit} {mm res : gM} (h : F_Telling_init b a0 a1 a2 a3 a4 a5 a6 mm = some (r, res)) : xX l E Y_Telling_init n0 s0 none res 0 [(0, .inr (.inr (some b))), (1, .inl a0), (2, .inl a1), (3, .inl a2), (4, .inl a3), (5, .inr (.inl a4)), (7, .inl a5), (8, .inr (.inr a6))] [] mm := by
  unfold F_Telling_init at h
  refine x_aloadn 0 0 d_Telling_init_0 rfl rfl ?_
  refine x_objinit 1 rfl (gT_in1 84 rfl) (gT_in0 26 rfl) (gT_in0 27 rfl) (by decide) (by decide) d_Telling_init_1 ?_
  refine x_aloadn 4 0 d_Telling_init_4 rfl rfl ?_
  refine x_iloadn 5 1 d_Telling_init_5 rfl rfl ?_
  replace h := gb1_elim h; obtain ⟨mm1, h2, h⟩ := h
  refine x_putF 6 fp_Telling_7 rfl rfl rfl h2 d_Telling_init_6 ?_
  refine x_aloadn 9 0 d_Telling_init_9 rfl rfl ?_
  refine x_iloadn 10 2 d_Telling_init_10 rfl rfl ?_
  replace h := gb1_elim h; obtain ⟨mm3, h4, h⟩ := h
  refine x_putF 11 fp_Telling_13 rfl rfl rfl h4 d_Telling_init_11 ?_
  refine x_aloadn 14 0 d_Telling_init_14 rfl rfl ?_
  refine x_iloadn 15 3 d_Telling_init_15 rfl rfl ?_
  replace h := gb1_elim h; obtain ⟨mm5, h6, h⟩ := h
  refine x_putF 16 fp_Telling_16 rfl rfl rfl h6 d_Telling_init_16 ?_
  refine x_aloadn 19 0 d_Telling_init_19 rfl rfl ?_
  refine x_iload 20 4 d_Telling_init_20 rfl ?_
  replace h := gb1_elim h; obtain ⟨mm7, h8, h⟩ := h
  refine x_putF 22 fp_Telling_19 rfl rfl rfl h8 d_Telling_init_22 ?_
  refine x_aloadn 25 0 d_Telling_init_25 rfl rfl ?_
  refine x_lload 26 5 d_Telling_init_26 rfl ?_
  replace h := gb1_elim h; obtain ⟨mm9, h10, h⟩ := h
  refine x_putF 28 fp_Telling_22 rfl rfl rfl h10 d_Telling_init_28 ?_
  refine x_aloadn 31 0 d_Telling_init_31 rfl rfl ?_
  refine x_iload 32 6 d_Telling_init_32 rfl ?_
  replace h := gb1_elim h; obtain ⟨mm11, h12, h⟩ := h
  refine x_putF 34 fp_Telling_26 rfl rfl rfl h12 d_Telling_init_34 ?_
  refine x_aloadn 37 0 d_Telling_init_37 rfl rfl ?_
  refine x_aload 38 7 d_Telling_init_38 rfl ?_
  replace h := gb1_elim h; obtain ⟨mm13, h14, h⟩ := h
  refine x_putF 40 fp_Telling_29 rfl (g_nR _ _) (g_fR _ _) h14 d_Telling_init_40 ?_
  cases h
  exact x_return 43 rfl d_Telling_init_43
theorem k_Telling_init {b : Nat} {a0 : Int32} {a1 : Int32} {a2 : Int32} {a3 : Int32} {a4 : Int64} {a5 : Int32} {a6 : Option Nat} {r : Unit} {mm res : gM} (h : F_Telling_init b a0 a1 a2 a3 a4 a5 a6 mm = some (r, res)) : ∀ (l : Launch) (E : gD), gLe mm res ∧ gMet l E Y_Telling_init y_Telling_init [.inr (.inr (some b)), .inl a0, .inl a1, .inl a2, .inl a3, .inr (.inl a4), .inl a5, .inr (.inr a6)] none mm res :=
  fun l E => ⟨(w_Telling_init (l := l) (E := E) (n0 := 0) (s0 := 0) h).1, x_met (by decide +kernel) rfl rfl rfl (Nat.le_of_ble_eq_true rfl) (w_Telling_init h)⟩
theorem d_AL_rangeCheckForAdd_0 : decode b_AL_rangeCheckForAdd 0 = .ok (.iload_n 1, 1) := by decide +kernel
theorem d_AL_rangeCheckForAdd_1 : decode b_AL_rangeCheckForAdd 1 = .ok (.aload_n 0, 1) := by decide +kernel
theorem d_AL_rangeCheckForAdd_2 : decode b_AL_rangeCheckForAdd 2 = .ok (.getfield 48, 3) := by decide +kernel
theorem d_AL_rangeCheckForAdd_5 : decode b_AL_rangeCheckForAdd 5 = .ok (.if_icmp .gt 7, 3) := by decide +kernel
theorem d_AL_rangeCheckForAdd_8 : decode b_AL_rangeCheckForAdd 8 = .ok (.iload_n 1, 1) := by decide +kernel
theorem d_AL_rangeCheckForAdd_9 : decode b_AL_rangeCheckForAdd 9 = .ok (.ifCond .ge 16, 3) := by decide +kernel
theorem d_AL_rangeCheckForAdd_12 : decode b_AL_rangeCheckForAdd 12 = .ok (.new 187, 3) := by decide +kernel
theorem d_AL_rangeCheckForAdd_15 : decode b_AL_rangeCheckForAdd 15 = .ok (.dup, 1) := by decide +kernel
theorem d_AL_rangeCheckForAdd_16 : decode b_AL_rangeCheckForAdd 16 = .ok (.aload_n 0, 1) := by decide +kernel
theorem d_AL_rangeCheckForAdd_17 : decode b_AL_rangeCheckForAdd 17 = .ok (.iload_n 1, 1) := by decide +kernel
theorem d_AL_rangeCheckForAdd_18 : decode b_AL_rangeCheckForAdd 18 = .ok (.invokevirtual 198, 3) := by decide +kernel
theorem d_AL_rangeCheckForAdd_21 : decode b_AL_rangeCheckForAdd 21 = .ok (.invokespecial 193, 3) := by decide +kernel
theorem d_AL_rangeCheckForAdd_24 : decode b_AL_rangeCheckForAdd 24 = .ok (.athrow, 1) := by decide +kernel
theorem d_AL_rangeCheckForAdd_25 : decode b_AL_rangeCheckForAdd 25 = .ok (.return_, 1) := by decide +kernel
def F_AL_rangeCheckForAdd (b : Nat) (a0 : Int32) (mm : gM) : Option (Unit × gM) :=
  gb1 (gfI 9 1 (some b) mm) fun v1 =>
  gLet (fun (p0 : Option Nat) (p1 : Int32) (mm : gM) =>
    none) fun J12 =>
  if v1 < a0 then (
    J12 (some b) a0 mm)
  else (
    if 0 ≤ a0 then (
      some ((), mm))
    else (
      J12 (some b) a0 mm))
set_option maxHeartbeats 8000000 in
set_option maxRecDepth 100000 in
theorem w_AL_rangeCheckForAdd {l : Launch} {E : gD} {n0 s0 : Nat} {b : Nat} {a0 : Int32} {r : Unit} {mm res : gM} (h : F_AL_rangeCheckForAdd b a0 mm = some (r, res)) : xX l E Y_AL_rangeCheckForAdd n0 s0 none res 0 [(0, .inr (.inr (some b))), (1, .inl a0)] [] mm := by
  unfold F_AL_rangeCheckForAdd at h
  refine x_iloadn 0 1 d_AL_rangeCheckForAdd_0 rfl rfl ?_
  refine x_aloadn 1 0 d_AL_rangeCheckForAdd_1 rfl rfl ?_
  replace h := gb1_elim h; obtain ⟨v1, h2, h⟩ := h
  refine x_getI 2 h2 fl_AL_48 d_AL_rangeCheckForAdd_2 ?_
  replace h := gLet_elim h; obtain ⟨J12, hJ12, h⟩ := h
  have kJ12 : ∀ (p0 : Option Nat) (p1 : Int32) (mm : gM), J12 p0 p1 mm = some (r, res) → xX l E Y_AL_rangeCheckForAdd n0 s0 none res 12 [(0, .inr (.inr p0)), (1, .inl p1)] [] mm := by
    intro p0 p1 mm h
    rw [hJ12] at h
    cases h
  refine x_icmp_gt 5 12 d_AL_rangeCheckForAdd_5 (by decide) (fun c3 => ?_) (fun c3 => ?_)
  · replace h := gif_t h c3
    exact kJ12 _ _ _ h
  · replace h := gif_f h c3
    refine x_iloadn 8 1 d_AL_rangeCheckForAdd_8 rfl rfl ?_
    refine x_if_ge 9 25 d_AL_rangeCheckForAdd_9 (by decide) (fun c4 => ?_) (fun c4 => ?_)
    · replace h := gif_t h c4
      cases h
      exact x_return 25 rfl d_AL_rangeCheckForAdd_25
    · replace h := gif_f h c4
      exact kJ12 _ _ _ h
theorem k_AL_rangeCheckForAdd {b : Nat} {a0 : Int32} {r : Unit} {mm res : gM} (h : F_AL_rangeCheckForAdd b a0 mm = some (r, res)) : ∀ (l : Launch) (E : gD), gLe mm res ∧ gMet l E Y_AL_rangeCheckForAdd y_AL_rangeCheckForAdd [.inr (.inr (some b)), .inl a0] none mm res :=
  fun l E => ⟨(w_AL_rangeCheckForAdd (l := l) (E := E) (n0 := 0) (s0 := 0) h).1, x_met (by decide +kernel) rfl rfl rfl (Nat.le_of_ble_eq_true rfl) (w_AL_rangeCheckForAdd h)⟩
theorem d_AL_add3_0 : decode b_AL_add3 0 = .ok (.aload_n 0, 1) := by decide +kernel
theorem d_AL_add3_1 : decode b_AL_add3 1 = .ok (.iload_n 1, 1) := by decide +kernel
theorem d_AL_add3_2 : decode b_AL_add3 2 = .ok (.invokevirtual 135, 3) := by decide +kernel
theorem d_AL_add3_5 : decode b_AL_add3 5 = .ok (.aload_n 0, 1) := by decide +kernel
theorem d_AL_add3_6 : decode b_AL_add3 6 = .ok (.dup, 1) := by decide +kernel
theorem d_AL_add3_7 : decode b_AL_add3 7 = .ok (.getfield 63, 3) := by decide +kernel
theorem d_AL_add3_10 : decode b_AL_add3 10 = .ok (.iconst 1, 1) := by decide +kernel
theorem d_AL_add3_11 : decode b_AL_add3 11 = .ok (.iadd, 1) := by decide +kernel
theorem d_AL_add3_12 : decode b_AL_add3 12 = .ok (.putfield 63, 3) := by decide +kernel
theorem d_AL_add3_15 : decode b_AL_add3 15 = .ok (.aload_n 0, 1) := by decide +kernel
theorem d_AL_add3_16 : decode b_AL_add3 16 = .ok (.getfield 48, 3) := by decide +kernel
theorem d_AL_add3_19 : decode b_AL_add3 19 = .ok (.dup, 1) := by decide +kernel
theorem d_AL_add3_20 : decode b_AL_add3 20 = .ok (.istore_n 3, 1) := by decide +kernel
theorem d_AL_add3_21 : decode b_AL_add3 21 = .ok (.aload_n 0, 1) := by decide +kernel
theorem d_AL_add3_22 : decode b_AL_add3 22 = .ok (.getfield 9, 3) := by decide +kernel
theorem d_AL_add3_25 : decode b_AL_add3 25 = .ok (.dup, 1) := by decide +kernel
theorem d_AL_add3_26 : decode b_AL_add3 26 = .ok (.astore 4, 2) := by decide +kernel
theorem d_AL_add3_28 : decode b_AL_add3 28 = .ok (.arraylength, 1) := by decide +kernel
theorem d_AL_add3_29 : decode b_AL_add3 29 = .ok (.if_icmp .ne 9, 3) := by decide +kernel
theorem d_AL_add3_32 : decode b_AL_add3 32 = .ok (.aload_n 0, 1) := by decide +kernel
theorem d_AL_add3_33 : decode b_AL_add3 33 = .ok (.invokevirtual 129, 3) := by decide +kernel
theorem d_AL_add3_36 : decode b_AL_add3 36 = .ok (.astore 4, 2) := by decide +kernel
theorem d_AL_add3_38 : decode b_AL_add3 38 = .ok (.aload 4, 2) := by decide +kernel
theorem d_AL_add3_40 : decode b_AL_add3 40 = .ok (.iload_n 1, 1) := by decide +kernel
theorem d_AL_add3_41 : decode b_AL_add3 41 = .ok (.aload 4, 2) := by decide +kernel
theorem d_AL_add3_43 : decode b_AL_add3 43 = .ok (.iload_n 1, 1) := by decide +kernel
theorem d_AL_add3_44 : decode b_AL_add3 44 = .ok (.iconst 1, 1) := by decide +kernel
theorem d_AL_add3_45 : decode b_AL_add3 45 = .ok (.iadd, 1) := by decide +kernel
theorem d_AL_add3_46 : decode b_AL_add3 46 = .ok (.iload_n 3, 1) := by decide +kernel
theorem d_AL_add3_47 : decode b_AL_add3 47 = .ok (.iload_n 1, 1) := by decide +kernel
theorem d_AL_add3_48 : decode b_AL_add3 48 = .ok (.isub, 1) := by decide +kernel
theorem d_AL_add3_49 : decode b_AL_add3 49 = .ok (.invokestatic 112, 3) := by decide +kernel
theorem d_AL_add3_52 : decode b_AL_add3 52 = .ok (.aload 4, 2) := by decide +kernel
theorem d_AL_add3_54 : decode b_AL_add3 54 = .ok (.iload_n 1, 1) := by decide +kernel
theorem d_AL_add3_55 : decode b_AL_add3 55 = .ok (.aload_n 2, 1) := by decide +kernel
theorem d_AL_add3_56 : decode b_AL_add3 56 = .ok (.aastore, 1) := by decide +kernel
theorem d_AL_add3_57 : decode b_AL_add3 57 = .ok (.aload_n 0, 1) := by decide +kernel
theorem d_AL_add3_58 : decode b_AL_add3 58 = .ok (.iload_n 3, 1) := by decide +kernel
theorem d_AL_add3_59 : decode b_AL_add3 59 = .ok (.iconst 1, 1) := by decide +kernel
theorem d_AL_add3_60 : decode b_AL_add3 60 = .ok (.iadd, 1) := by decide +kernel
theorem d_AL_add3_61 : decode b_AL_add3 61 = .ok (.putfield 48, 3) := by decide +kernel
theorem d_AL_add3_64 : decode b_AL_add3 64 = .ok (.return_, 1) := by decide +kernel
def F_AL_add3 (b : Nat) (a0 : Int32) (a1 : Option Nat) (mm : gM) : Option (Unit × gM) :=
  gb1 (grc 9 (some b) mm) fun b4 =>
  gb2 (F_AL_rangeCheckForAdd b4 a0 mm) fun v1 mm2 =>
  gb1 (gfI 9 2 (some b) mm2) fun v6 =>
  gb1 (gpV 9 2 (some b) (.int (v6 + (1 : Int32))) mm2) fun mm8 =>
  gb1 (gfI 9 1 (some b) mm8) fun v10 =>
  gb1 (gfR 9 0 (some b) mm8) fun v12 =>
  gb1 (glen v12 mm8) fun v14 =>
  gLet (fun (p0 : Option Nat) (p1 : Int32) (p2 : Option Nat) (p3 : Int32) (p4 : Option Nat) (mm : gM) =>
    gb1 (gcR 4 gObs p4 p1 p4 (p1 + (1 : Int32)) (p3 - p1) mm) fun mm16 =>
    gb1 (gsR 4 gObs p4 p1 p2 mm16) fun mm18 =>
    gb1 (gpV 9 1 p0 (.int (p3 + (1 : Int32))) mm18) fun mm20 =>
    some ((), mm20)) fun J38 =>
  if v10 = v14 then (
    gb1 (grc 9 (some b) mm8) fun b26 =>
    gb2 (F_AL_grow b26  mm8) fun v23 mm24 =>
    J38 (some b) a0 a1 v10 v23 mm24)
  else (
    J38 (some b) a0 a1 v10 v12 mm8)
set_option maxHeartbeats 8000000 in
set_option maxRecDepth 100000 in
theorem w_AL_add3 {l : Launch} {E : gD} {n0 s0 : Nat} {b : Nat} {a0 : Int32} {a1 : Option Nat} {r : Unit} {mm res : gM} (h : F_AL_add3 b a0 a1 mm = some (r, res)) : xX l E Y_AL_add3 n0 s0 none res 0 [(0, .inr (.inr (some b))), (1, .inl a0), (2, .inr (.inr a1))] [] mm := by
  unfold F_AL_add3 at h
  refine x_aloadn 0 0 d_AL_add3_0 rfl rfl ?_
  refine x_iloadn 1 1 d_AL_add3_1 rfl rfl ?_
  replace h := gb1_elim h; obtain ⟨b4, h5, h⟩ := h
  replace h := gb2_elim h; obtain ⟨v1, mm2, h3, h⟩ := h
  refine x_callV 2 1 (as := [.inl a0]) (st' := []) (rs := []) (k_AL_rangeCheckForAdd h3) rfl cf_AL_135 ⟨rfl, by decide +kernel, by decide, by decide, Nat.le_of_ble_eq_true rfl⟩ h5 rfl d_AL_add3_2 ?_
  refine x_aloadn 5 0 d_AL_add3_5 rfl rfl ?_
  refine x_dup 6 d_AL_add3_6 rfl ?_
  replace h := gb1_elim h; obtain ⟨v6, h7, h⟩ := h
  refine x_getI 7 h7 fl_AL_63 d_AL_add3_7 ?_
  refine x_iconst 10 d_AL_add3_10 (v := (1 : Int32)) (by decide +kernel) ?_
  refine x_iadd 11 d_AL_add3_11 ?_
  replace h := gb1_elim h; obtain ⟨mm8, h9, h⟩ := h
  refine x_putV 12 fp_AL_63 rfl rfl h9 d_AL_add3_12 ?_
  refine x_aloadn 15 0 d_AL_add3_15 rfl rfl ?_
  replace h := gb1_elim h; obtain ⟨v10, h11, h⟩ := h
  refine x_getI 16 h11 fl_AL_48 d_AL_add3_16 ?_
  refine x_dup 19 d_AL_add3_19 rfl ?_
  refine x_istoren 20 (lv' := [(3, .inl v10), (0, .inr (.inr (some b))), (1, .inl a0), (2, .inr (.inr a1))]) d_AL_add3_20 rfl (by decide) rfl ?_
  refine x_aloadn 21 1 d_AL_add3_21 rfl rfl ?_
  replace h := gb1_elim h; obtain ⟨v12, h13, h⟩ := h
  refine x_getR 22 h13 fl_AL_9 d_AL_add3_22 ?_
  refine x_dup 25 d_AL_add3_25 rfl ?_
  refine x_astore 26 (lv' := [(4, .inr (.inr v12)), (3, .inl v10), (0, .inr (.inr (some b))), (1, .inl a0), (2, .inr (.inr a1))]) d_AL_add3_26 (by decide) rfl ?_
  replace h := gb1_elim h; obtain ⟨v14, h15, h⟩ := h
  refine x_alen 28 h15 d_AL_add3_28 ?_
  replace h := gLet_elim h; obtain ⟨J38, hJ38, h⟩ := h
  have kJ38 : ∀ (p0 : Option Nat) (p1 : Int32) (p2 : Option Nat) (p3 : Int32) (p4 : Option Nat) (mm : gM), J38 p0 p1 p2 p3 p4 mm = some (r, res) → xX l E Y_AL_add3 n0 s0 none res 38 [(0, .inr (.inr p0)), (1, .inl p1), (2, .inr (.inr p2)), (3, .inl p3), (4, .inr (.inr p4))] [] mm := by
    intro p0 p1 p2 p3 p4 mm h
    rw [hJ38] at h
    refine x_aload 38 4 d_AL_add3_38 rfl ?_
    refine x_iloadn 40 1 d_AL_add3_40 rfl rfl ?_
    refine x_aload 41 4 d_AL_add3_41 rfl ?_
    refine x_iloadn 43 1 d_AL_add3_43 rfl rfl ?_
    refine x_iconst 44 d_AL_add3_44 (v := (1 : Int32)) (by decide +kernel) ?_
    refine x_iadd 45 d_AL_add3_45 ?_
    refine x_iloadn 46 3 d_AL_add3_46 rfl rfl ?_
    refine x_iloadn 47 1 d_AL_add3_47 rfl rfl ?_
    refine x_isub 48 d_AL_add3_48 ?_
    replace h := gb1_elim h; obtain ⟨mm16, h17, h⟩ := h
    refine x_copyR 49 (by decide) rfl gInto_O ac_AL_112 h17 (by decide) (by decide +kernel) d_AL_add3_49 ?_
    refine x_aload 52 4 d_AL_add3_52 rfl ?_
    refine x_iloadn 54 1 d_AL_add3_54 rfl rfl ?_
    refine x_aloadn 55 2 d_AL_add3_55 rfl rfl ?_
    replace h := gb1_elim h; obtain ⟨mm18, h19, h⟩ := h
    refine x_aast 56 (by decide) rfl gInto_O h19 d_AL_add3_56 ?_
    refine x_aloadn 57 0 d_AL_add3_57 rfl rfl ?_
    refine x_iloadn 58 3 d_AL_add3_58 rfl rfl ?_
    refine x_iconst 59 d_AL_add3_59 (v := (1 : Int32)) (by decide +kernel) ?_
    refine x_iadd 60 d_AL_add3_60 ?_
    replace h := gb1_elim h; obtain ⟨mm20, h21, h⟩ := h
    refine x_putV 61 fp_AL_48 rfl rfl h21 d_AL_add3_61 ?_
    cases h
    exact x_return 64 rfl d_AL_add3_64
  refine x_icmp_ne 29 38 d_AL_add3_29 (by decide) (fun c22 => ?_) (fun c22 => ?_)
  · replace h := gif_t h c22
    refine x_aloadn 32 2 d_AL_add3_32 rfl rfl ?_
    replace h := gb1_elim h; obtain ⟨b26, h27, h⟩ := h
    replace h := gb2_elim h; obtain ⟨v23, mm24, h25, h⟩ := h
    refine x_callV 33 0 (as := []) (st' := []) (rs := [.inr (.inr v23)]) (k_AL_grow h25) rfl cf_AL_129 ⟨rfl, by decide +kernel, by decide, by decide, Nat.le_of_ble_eq_true rfl⟩ h27 rfl d_AL_add3_33 ?_
    refine x_astore 36 (lv' := [(4, .inr (.inr v23)), (3, .inl v10), (0, .inr (.inr (some b))), (1, .inl a0), (2, .inr (.inr a1))]) d_AL_add3_36 (by decide) rfl ?_
    refine x_sub [2, 3, 4, 1, 0] rfl ?_
    exact kJ38 _ _ _ _ _ _ h
  · replace h := gif_f h c22
    refine x_sub [2, 3, 4, 1, 0] rfl ?_
    exact kJ38 _ _ _ _ _ _ h
theorem k_AL_add3 {b : Nat} {a0 : Int32} {a1 : Option Nat} {r : Unit} {mm res : gM} (h : F_AL_add3 b a0 a1 mm = some (r, res)) : ∀ (l : Launch) (E : gD), gLe mm res ∧ gMet l E Y_AL_add3 y_AL_add3 [.inr (.inr (some b)), .inl a0, .inr (.inr a1)] none mm res :=
  fun l E => ⟨(w_AL_add3 (l := l) (E := E) (n0 := 0) (s0 := 0) h).1, x_met (by decide +kernel) rfl rfl rfl (Nat.le_of_ble_eq_true rfl) (w_AL_add3 h)⟩
theorem d_Teller_keep_0 : decode b_Teller_keep 0 = .ok (.aload_n 0, 1) := by decide +kernel
theorem d_Teller_keep_1 : decode b_Teller_keep 1 = .ok (.getfield 12, 3) := by decide +kernel
theorem d_Teller_keep_4 : decode b_Teller_keep 4 = .ok (.aload_n 0, 1) := by decide +kernel
theorem d_Teller_keep_5 : decode b_Teller_keep 5 = .ok (.aload_n 1, 1) := by decide +kernel
theorem d_Teller_keep_6 : decode b_Teller_keep 6 = .ok (.getfield 46, 3) := by decide +kernel
theorem d_Teller_keep_9 : decode b_Teller_keep 9 = .ok (.invokevirtual 50, 3) := by decide +kernel
theorem d_Teller_keep_12 : decode b_Teller_keep 12 = .ok (.aload_n 1, 1) := by decide +kernel
theorem d_Teller_keep_13 : decode b_Teller_keep 13 = .ok (.invokevirtual 54, 3) := by decide +kernel
theorem d_Teller_keep_16 : decode b_Teller_keep 16 = .ok (.return_, 1) := by decide +kernel
def F_Teller_keep (b : Nat) (a0 : Option Nat) (mm : gM) : Option (Unit × gM) :=
  gb1 (gfR 1 0 (some b) mm) fun v1 =>
  gb1 (gfI 7 2 a0 mm) fun v3 =>
  gb1 (grc 1 (some b) mm) fun b8 =>
  gb2 (F_Teller_placeOf b8 v3 mm) fun v5 mm6 =>
  gb1 (grc 9 v1 mm6) fun b13 =>
  gb2 (F_AL_add3 b13 v5 a0 mm6) fun v10 mm11 =>
  some ((), mm11)
set_option maxHeartbeats 8000000 in
set_option maxRecDepth 100000 in
theorem w_Teller_keep {l : Launch} {E : gD} {n0 s0 : Nat} {b : Nat} {a0 : Option Nat} {r : Unit} {mm res : gM} (h : F_Teller_keep b a0 mm = some (r, res)) : xX l E Y_Teller_keep n0 s0 none res 0 [(0, .inr (.inr (some b))), (1, .inr (.inr a0))] [] mm := by
  unfold F_Teller_keep at h
  refine x_aloadn 0 0 d_Teller_keep_0 rfl rfl ?_
  replace h := gb1_elim h; obtain ⟨v1, h2, h⟩ := h
  refine x_getR 1 h2 fl_Teller_12 d_Teller_keep_1 ?_
  refine x_aloadn 4 0 d_Teller_keep_4 rfl rfl ?_
  refine x_aloadn 5 1 d_Teller_keep_5 rfl rfl ?_
  replace h := gb1_elim h; obtain ⟨v3, h4, h⟩ := h
  refine x_getI 6 h4 fl_Teller_46 d_Teller_keep_6 ?_
  replace h := gb1_elim h; obtain ⟨b8, h9, h⟩ := h
  replace h := gb2_elim h; obtain ⟨v5, mm6, h7, h⟩ := h
  refine x_callV 9 1 (as := [.inl v3]) (st' := [.inr (.inr v1)]) (rs := [.inl v5]) (k_Teller_placeOf h7) rfl cf_Teller_50 ⟨rfl, by decide +kernel, by decide, by decide, Nat.le_of_ble_eq_true rfl⟩ h9 rfl d_Teller_keep_9 ?_
  refine x_aloadn 12 1 d_Teller_keep_12 rfl rfl ?_
  replace h := gb1_elim h; obtain ⟨b13, h14, h⟩ := h
  replace h := gb2_elim h; obtain ⟨v10, mm11, h12, h⟩ := h
  refine x_callV 13 2 (as := [.inl v5, .inr (.inr a0)]) (st' := []) (rs := []) (k_AL_add3 h12) rfl cf_Teller_54 ⟨rfl, by decide +kernel, by decide, by decide, Nat.le_of_ble_eq_true rfl⟩ h14 rfl d_Teller_keep_13 ?_
  cases h
  exact x_return 16 rfl d_Teller_keep_16
theorem k_Teller_keep {b : Nat} {a0 : Option Nat} {r : Unit} {mm res : gM} (h : F_Teller_keep b a0 mm = some (r, res)) : ∀ (l : Launch) (E : gD), gLe mm res ∧ gMet l E Y_Teller_keep y_Teller_keep [.inr (.inr (some b)), .inr (.inr a0)] none mm res :=
  fun l E => ⟨(w_Teller_keep (l := l) (E := E) (n0 := 0) (s0 := 0) h).1, x_met (by decide +kernel) rfl rfl rfl (Nat.le_of_ble_eq_true rfl) (w_Teller_keep h)⟩
