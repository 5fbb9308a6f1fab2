-- AbstractCollection_init AbstractList_init AL_init Current_init S_init M_init AL_size Blocks_init Clock_init
theorem d_AbstractCollection_init_0 : decode b_AbstractCollection_init 0 = .ok (.aload_n 0, 1) := by decide +kernel
theorem d_AbstractCollection_init_1 : decode b_AbstractCollection_init 1 = .ok (.invokespecial 1, 3) := by decide +kernel
theorem d_AbstractCollection_init_4 : decode b_AbstractCollection_init 4 = .ok (.return_, 1) := by decide +kernel
def F_AbstractCollection_init (b : Nat) (mm : gM) : Option (Unit × gM) :=
  some ((), mm)
set_option maxHeartbeats 8000000 in
set_option maxRecDepth 100000 in
theorem w_AbstractCollection_init {l : Launch} {E : gD} {n0 s0 : Nat} {b : Nat} {r : Unit} {mm res : gM} (h : F_AbstractCollection_init b mm = some (r, res)) : xX l E Y_AbstractCollection_init n0 s0 none res 0 [(0, .inr (.inr (some b)))] [] mm := by
  unfold F_AbstractCollection_init at h
  refine x_aloadn 0 0 d_AbstractCollection_init_0 rfl rfl ?_
  refine x_objinit 1 rfl (gT_in0 39 rfl) (gT_in0 26 rfl) (gT_in0 27 rfl) (by decide) (by decide) d_AbstractCollection_init_1 ?_
  cases h
  exact x_return 4 rfl d_AbstractCollection_init_4
theorem k_AbstractCollection_init {b : Nat} {r : Unit} {mm res : gM} (h : F_AbstractCollection_init b mm = some (r, res)) : ∀ (l : Launch) (E : gD), gLe mm res ∧ gMet l E Y_AbstractCollection_init y_AbstractCollection_init [.inr (.inr (some b))] none mm res :=
  fun l E => ⟨(w_AbstractCollection_init (l := l) (E := E) (n0 := 0) (s0 := 0) h).1, x_met (by decide +kernel) rfl rfl rfl (Nat.le_of_ble_eq_true rfl) (w_AbstractCollection_init h)⟩
theorem d_AbstractList_init_0 : decode b_AbstractList_init 0 = .ok (.aload_n 0, 1) := by decide +kernel
theorem d_AbstractList_init_1 : decode b_AbstractList_init 1 = .ok (.invokespecial 1, 3) := by decide +kernel
theorem d_AbstractList_init_4 : decode b_AbstractList_init 4 = .ok (.aload_n 0, 1) := by decide +kernel
theorem d_AbstractList_init_5 : decode b_AbstractList_init 5 = .ok (.iconst 0, 1) := by decide +kernel
theorem d_AbstractList_init_6 : decode b_AbstractList_init 6 = .ok (.putfield 7, 3) := by decide +kernel
theorem d_AbstractList_init_9 : decode b_AbstractList_init 9 = .ok (.return_, 1) := by decide +kernel
def F_AbstractList_init (b : Nat) (mm : gM) : Option (Unit × gM) :=
  gb2 (F_AbstractCollection_init b  mm) fun v1 mm2 =>
  gb1 (gpV 9 2 (some b) (.int (0 : Int32)) mm2) fun mm6 =>
  some ((), mm6)
set_option maxHeartbeats 8000000 in
set_option maxRecDepth 100000 in
theorem w_AbstractList_init {l : Launch} {E : gD} {n0 s0 : Nat} {b : Nat} {r : Unit} {mm res : gM} (h : F_AbstractList_init b mm = some (r, res)) : xX l E Y_AbstractList_init n0 s0 none res 0 [(0, .inr (.inr (some b)))] [] mm := by
  unfold F_AbstractList_init at h
  refine x_aloadn 0 0 d_AbstractList_init_0 rfl rfl ?_
  replace h := gb2_elim h; obtain ⟨v1, mm2, h3, h⟩ := h
  refine x_callI 1 0 (as := []) (st' := []) (k_AbstractCollection_init h3) cf_AbstractList_1 ⟨rfl, by decide +kernel, by decide, by decide, Nat.le_of_ble_eq_true rfl⟩ rfl d_AbstractList_init_1 ?_
  refine x_aloadn 4 0 d_AbstractList_init_4 rfl rfl ?_
  refine x_iconst 5 d_AbstractList_init_5 (v := (0 : Int32)) (by decide +kernel) ?_
  replace h := gb1_elim h; obtain ⟨mm6, h7, h⟩ := h
  refine x_putV 6 fp_AbstractList_7 rfl rfl h7 d_AbstractList_init_6 ?_
  cases h
  exact x_return 9 rfl d_AbstractList_init_9
theorem k_AbstractList_init {b : Nat} {r : Unit} {mm res : gM} (h : F_AbstractList_init b mm = some (r, res)) : ∀ (l : Launch) (E : gD), gLe mm res ∧ gMet l E Y_AbstractList_init y_AbstractList_init [.inr (.inr (some b))] none mm res :=
  fun l E => ⟨(w_AbstractList_init (l := l) (E := E) (n0 := 0) (s0 := 0) h).1, x_met (by decide +kernel) rfl rfl rfl (Nat.le_of_ble_eq_true rfl) (w_AbstractList_init h)⟩
theorem d_AL_init_0 : decode b_AL_init 0 = .ok (.aload_n 0, 1) := by decide +kernel
theorem d_AL_init_1 : decode b_AL_init 1 = .ok (.invokespecial 1, 3) := by decide +kernel
theorem d_AL_init_4 : decode b_AL_init 4 = .ok (.aload_n 0, 1) := by decide +kernel
theorem d_AL_init_5 : decode b_AL_init 5 = .ok (.getstatic 39, 3) := by decide +kernel
theorem d_AL_init_8 : decode b_AL_init 8 = .ok (.putfield 9, 3) := by decide +kernel
theorem d_AL_init_11 : decode b_AL_init 11 = .ok (.return_, 1) := by decide +kernel
def F_AL_init (b : Nat) (mm : gM) : Option (Unit × gM) :=
  gb2 (F_AbstractList_init b  mm) fun v1 mm2 =>
  gb1 (gpV 9 0 (some b) (va_rf (some (mm2.2.2.2.1 0))) mm2) fun mm6 =>
  some ((), mm6)
set_option maxHeartbeats 8000000 in
set_option maxRecDepth 100000 in
theorem w_AL_init {l : Launch} {E : gD} {n0 s0 : Nat} {b : Nat} {r : Unit} {mm res : gM} (h : F_AL_init b mm = some (r, res)) : xX l E Y_AL_init n0 s0 none res 0 [(0, .inr (.inr (some b)))] [] mm := by
  unfold F_AL_init at h
  refine x_aloadn 0 0 d_AL_init_0 rfl rfl ?_
  replace h := gb2_elim h; obtain ⟨v1, mm2, h3, h⟩ := h
  refine x_callI 1 0 (as := []) (st' := []) (k_AbstractList_init h3) cf_AL_1 ⟨rfl, by decide +kernel, by decide, by decide, Nat.le_of_ble_eq_true rfl⟩ rfl d_AL_init_1 ?_
  refine x_aloadn 4 0 d_AL_init_4 rfl rfl ?_
  refine x_getS 5 (gT_in0 40 rfl) d_AL_init_5 ?_
  replace h := gb1_elim h; obtain ⟨mm6, h7, h⟩ := h
  refine x_putV 8 fp_AL_9 (g_nA _ _) (g_fA _ _) h7 d_AL_init_8 ?_
  cases h
  exact x_return 11 rfl d_AL_init_11
theorem k_AL_init {b : Nat} {r : Unit} {mm res : gM} (h : F_AL_init b mm = some (r, res)) : ∀ (l : Launch) (E : gD), gLe mm res ∧ gMet l E Y_AL_init y_AL_init [.inr (.inr (some b))] none mm res :=
  fun l E => ⟨(w_AL_init (l := l) (E := E) (n0 := 0) (s0 := 0) h).1, x_met (by decide +kernel) rfl rfl rfl (Nat.le_of_ble_eq_true rfl) (w_AL_init h)⟩
theorem d_Current_init_0 : decode b_Current_init 0 = .ok (.aload_n 0, 1) := by decide +kernel
theorem d_Current_init_1 : decode b_Current_init 1 = .ok (.invokespecial 3, 3) := by decide +kernel
theorem d_Current_init_4 : decode b_Current_init 4 = .ok (.aload_n 0, 1) := by decide +kernel
theorem d_Current_init_5 : decode b_Current_init 5 = .ok (.bipush 8, 2) := by decide +kernel
theorem d_Current_init_7 : decode b_Current_init 7 = .ok (.newarray .int, 2) := by decide +kernel
theorem d_Current_init_9 : decode b_Current_init 9 = .ok (.putfield 9, 3) := by decide +kernel
theorem d_Current_init_12 : decode b_Current_init 12 = .ok (.aload_n 0, 1) := by decide +kernel
theorem d_Current_init_13 : decode b_Current_init 13 = .ok (.bipush 8, 2) := by decide +kernel
theorem d_Current_init_15 : decode b_Current_init 15 = .ok (.newarray .long, 2) := by decide +kernel
theorem d_Current_init_17 : decode b_Current_init 17 = .ok (.putfield 15, 3) := by decide +kernel
theorem d_Current_init_20 : decode b_Current_init 20 = .ok (.return_, 1) := by decide +kernel
def F_Current_init (b : Nat) (mm : gM) : Option (Unit × gM) :=
  gb2 (gnI 0 (8 : Int32) mm) fun v1 mm3 =>
  gb1 (gpV 8 0 (some b) (va_rf v1) mm3) fun mm4 =>
  gb2 (gnL 1 (8 : Int32) mm4) fun v6 mm8 =>
  gb1 (gpV 8 1 (some b) (va_rf v6) mm8) fun mm9 =>
  some ((), mm9)
set_option maxHeartbeats 8000000 in
set_option maxRecDepth 100000 in
theorem w_Current_init {l : Launch} {E : gD} {n0 s0 : Nat} {b : Nat} {r : Unit} {mm res : gM} (h : F_Current_init b mm = some (r, res)) : xX l E Y_Current_init n0 s0 none res 0 [(0, .inr (.inr (some b)))] [] mm := by
  unfold F_Current_init at h
  refine x_aloadn 0 0 d_Current_init_0 rfl rfl ?_
  refine x_objinit 1 rfl (gT_in0 54 rfl) (gT_in0 26 rfl) (gT_in0 27 rfl) (by decide) (by decide) d_Current_init_1 ?_
  refine x_aloadn 4 0 d_Current_init_4 rfl rfl ?_
  refine x_bipush 5 d_Current_init_5 (v := (8 : Int32)) (by decide +kernel) ?_
  replace h := gb2_elim h; obtain ⟨v1, mm3, h2, h⟩ := h
  refine x_newI 7 (by decide) rfl (gT_in0 60 rfl) h2 d_Current_init_7 ?_
  replace h := gb1_elim h; obtain ⟨mm4, h5, h⟩ := h
  refine x_putF 9 fp_Current_9 rfl (g_nA _ _) (g_fA _ _) h5 d_Current_init_9 ?_
  refine x_aloadn 12 0 d_Current_init_12 rfl rfl ?_
  refine x_bipush 13 d_Current_init_13 (v := (8 : Int32)) (by decide +kernel) ?_
  replace h := gb2_elim h; obtain ⟨v6, mm8, h7, h⟩ := h
  refine x_newL 15 (by decide) rfl (gT_in0 61 rfl) h7 d_Current_init_15 ?_
  replace h := gb1_elim h; obtain ⟨mm9, h10, h⟩ := h
  refine x_putF 17 fp_Current_15 rfl (g_nA _ _) (g_fA _ _) h10 d_Current_init_17 ?_
  cases h
  exact x_return 20 rfl d_Current_init_20
theorem k_Current_init {b : Nat} {r : Unit} {mm res : gM} (h : F_Current_init b mm = some (r, res)) : ∀ (l : Launch) (E : gD), gLe mm res ∧ gMet l E Y_Current_init y_Current_init [.inr (.inr (some b))] none mm res :=
  fun l E => ⟨(w_Current_init (l := l) (E := E) (n0 := 0) (s0 := 0) h).1, x_met (by decide +kernel) rfl rfl rfl (Nat.le_of_ble_eq_true rfl) (w_Current_init h)⟩
theorem d_S_init_0 : decode b_S_init 0 = .ok (.aload_n 0, 1) := by decide +kernel
theorem d_S_init_1 : decode b_S_init 1 = .ok (.invokespecial 5, 3) := by decide +kernel
theorem d_S_init_4 : decode b_S_init 4 = .ok (.aload_n 0, 1) := by decide +kernel
theorem d_S_init_5 : decode b_S_init 5 = .ok (.new 11, 3) := by decide +kernel
theorem d_S_init_8 : decode b_S_init 8 = .ok (.dup, 1) := by decide +kernel
theorem d_S_init_9 : decode b_S_init 9 = .ok (.invokespecial 13, 3) := by decide +kernel
theorem d_S_init_12 : decode b_S_init 12 = .ok (.putfield 14, 3) := by decide +kernel
theorem d_S_init_15 : decode b_S_init 15 = .ok (.aload_n 0, 1) := by decide +kernel
theorem d_S_init_16 : decode b_S_init 16 = .ok (.new 11, 3) := by decide +kernel
theorem d_S_init_19 : decode b_S_init 19 = .ok (.dup, 1) := by decide +kernel
theorem d_S_init_20 : decode b_S_init 20 = .ok (.invokespecial 13, 3) := by decide +kernel
theorem d_S_init_23 : decode b_S_init 23 = .ok (.putfield 18, 3) := by decide +kernel
theorem d_S_init_26 : decode b_S_init 26 = .ok (.aload_n 0, 1) := by decide +kernel
theorem d_S_init_27 : decode b_S_init 27 = .ok (.new 11, 3) := by decide +kernel
theorem d_S_init_30 : decode b_S_init 30 = .ok (.dup, 1) := by decide +kernel
theorem d_S_init_31 : decode b_S_init 31 = .ok (.invokespecial 13, 3) := by decide +kernel
theorem d_S_init_34 : decode b_S_init 34 = .ok (.putfield 21, 3) := by decide +kernel
theorem d_S_init_37 : decode b_S_init 37 = .ok (.aload_n 0, 1) := by decide +kernel
theorem d_S_init_38 : decode b_S_init 38 = .ok (.sipush 128, 3) := by decide +kernel
theorem d_S_init_41 : decode b_S_init 41 = .ok (.anewarray 24, 3) := by decide +kernel
theorem d_S_init_44 : decode b_S_init 44 = .ok (.putfield 26, 3) := by decide +kernel
theorem d_S_init_47 : decode b_S_init 47 = .ok (.aload_n 0, 1) := by decide +kernel
theorem d_S_init_48 : decode b_S_init 48 = .ok (.bipush 80, 2) := by decide +kernel
theorem d_S_init_50 : decode b_S_init 50 = .ok (.newarray .boolean, 2) := by decide +kernel
theorem d_S_init_52 : decode b_S_init 52 = .ok (.putfield 30, 3) := by decide +kernel
theorem d_S_init_55 : decode b_S_init 55 = .ok (.aload_n 0, 1) := by decide +kernel
theorem d_S_init_56 : decode b_S_init 56 = .ok (.new 34, 3) := by decide +kernel
theorem d_S_init_59 : decode b_S_init 59 = .ok (.dup, 1) := by decide +kernel
theorem d_S_init_60 : decode b_S_init 60 = .ok (.invokespecial 36, 3) := by decide +kernel
theorem d_S_init_63 : decode b_S_init 63 = .ok (.putfield 37, 3) := by decide +kernel
theorem d_S_init_66 : decode b_S_init 66 = .ok (.aload_n 0, 1) := by decide +kernel
theorem d_S_init_67 : decode b_S_init 67 = .ok (.iconst 0, 1) := by decide +kernel
theorem d_S_init_68 : decode b_S_init 68 = .ok (.putfield 41, 3) := by decide +kernel
theorem d_S_init_71 : decode b_S_init 71 = .ok (.return_, 1) := by decide +kernel
def F_S_init (b : Nat) (mm : gM) : Option (Unit × gM) :=
  gb2 (gnO 9 [.null, .int 0, .int 0] 3 mm) fun v1 mm3 =>
  gb1 v1 fun b7 =>
  gb2 (F_AL_init b7  mm3) fun v4 mm5 =>
  gb1 (gpV 0 0 (some b) (va_rf (some b7)) mm5) fun mm9 =>
  gb2 (gnO 9 [.null, .int 0, .int 0] 3 mm9) fun v11 mm13 =>
  gb1 v11 fun b17 =>
  gb2 (F_AL_init b17  mm13) fun v14 mm15 =>
  gb1 (gpV 0 1 (some b) (va_rf (some b17)) mm15) fun mm19 =>
  gb2 (gnO 9 [.null, .int 0, .int 0] 3 mm19) fun v21 mm23 =>
  gb1 v21 fun b27 =>
  gb2 (F_AL_init b27  mm23) fun v24 mm25 =>
  gb1 (gpV 0 2 (some b) (va_rf (some b27)) mm25) fun mm29 =>
  gb2 (gnR 3 (128 : Int32) mm29) fun v31 mm33 =>
  gb1 (gpV 0 3 (some b) (va_rf v31) mm33) fun mm34 =>
  gb2 (gnI 2 (80 : Int32) mm34) fun v36 mm38 =>
  gb1 (gpV 0 4 (some b) (va_rf v36) mm38) fun mm39 =>
  gb2 (gnO 8 [.null, .null] 2 mm39) fun v41 mm43 =>
  gb1 v41 fun b47 =>
  gb2 (F_Current_init b47  mm43) fun v44 mm45 =>
  gb1 (gpV 0 5 (some b) (va_rf (some b47)) mm45) fun mm49 =>
  gb1 (gpV 0 6 (some b) (.int (0 : Int32)) mm49) fun mm51 =>
  some ((), mm51)
set_option maxHeartbeats 8000000 in
set_option maxRecDepth 100000 in
theorem w_S_init {l : Launch} {E : gD} {n0 s0 : Nat} {b : Nat} {r : Unit} {mm res : gM} (h : F_S_init b mm = some (r, res)) : xX l E Y_S_init n0 s0 none res 0 [(0, .inr (.inr (some b)))] [] mm := by
  unfold F_S_init at h
  refine x_aloadn 0 0 d_S_init_0 rfl rfl ?_
  refine x_objinit 1 rfl (gT_in0 25 rfl) (gT_in0 26 rfl) (gT_in0 27 rfl) (by decide) (by decide) d_S_init_1 ?_
  refine x_aloadn 4 0 d_S_init_4 rfl rfl ?_
  replace h := gb2_elim h; obtain ⟨v1, mm3, h2, h⟩ := h
  refine x_new 5 nw_S_11 h2 d_S_init_5 ?_
  refine x_dup 8 d_S_init_8 rfl ?_
  replace h := gb1_elim h; obtain ⟨b7, h8, h⟩ := h
  subst h8
  replace h := gb2_elim h; obtain ⟨v4, mm5, h6, h⟩ := h
  refine x_callI 9 0 (as := []) (st' := [.inr (.inr (some b7)), .inr (.inr (some b))]) (k_AL_init h6) cf_S_13 ⟨rfl, by decide +kernel, by decide, by decide, Nat.le_of_ble_eq_true rfl⟩ rfl d_S_init_9 ?_
  replace h := gb1_elim h; obtain ⟨mm9, h10, h⟩ := h
  refine x_putF 12 fp_S_14 rfl (g_nR _ _) (g_fR _ _) h10 d_S_init_12 ?_
  refine x_aloadn 15 0 d_S_init_15 rfl rfl ?_
  replace h := gb2_elim h; obtain ⟨v11, mm13, h12, h⟩ := h
  refine x_new 16 nw_S_11 h12 d_S_init_16 ?_
  refine x_dup 19 d_S_init_19 rfl ?_
  replace h := gb1_elim h; obtain ⟨b17, h18, h⟩ := h
  subst h18
  replace h := gb2_elim h; obtain ⟨v14, mm15, h16, h⟩ := h
  refine x_callI 20 0 (as := []) (st' := [.inr (.inr (some b17)), .inr (.inr (some b))]) (k_AL_init h16) cf_S_13 ⟨rfl, by decide +kernel, by decide, by decide, Nat.le_of_ble_eq_true rfl⟩ rfl d_S_init_20 ?_
  replace h := gb1_elim h; obtain ⟨mm19, h20, h⟩ := h
  refine x_putF 23 fp_S_18 rfl (g_nR _ _) (g_fR _ _) h20 d_S_init_23 ?_
  refine x_aloadn 26 0 d_S_init_26 rfl rfl ?_
  replace h := gb2_elim h; obtain ⟨v21, mm23, h22, h⟩ := h
  refine x_new 27 nw_S_11 h22 d_S_init_27 ?_
  refine x_dup 30 d_S_init_30 rfl ?_
  replace h := gb1_elim h; obtain ⟨b27, h28, h⟩ := h
  subst h28
  replace h := gb2_elim h; obtain ⟨v24, mm25, h26, h⟩ := h
  refine x_callI 31 0 (as := []) (st' := [.inr (.inr (some b27)), .inr (.inr (some b))]) (k_AL_init h26) cf_S_13 ⟨rfl, by decide +kernel, by decide, by decide, Nat.le_of_ble_eq_true rfl⟩ rfl d_S_init_31 ?_
  replace h := gb1_elim h; obtain ⟨mm29, h30, h⟩ := h
  refine x_putF 34 fp_S_21 rfl (g_nR _ _) (g_fR _ _) h30 d_S_init_34 ?_
  refine x_aloadn 37 0 d_S_init_37 rfl rfl ?_
  refine x_sipush 38 d_S_init_38 (v := (128 : Int32)) (by decide +kernel) ?_
  replace h := gb2_elim h; obtain ⟨v31, mm33, h32, h⟩ := h
  refine x_newR 41 (C := "ShipSets$Telling") (by decide) rfl (gT_in0 49 rfl) (by decide +kernel) h32 d_S_init_41 ?_
  replace h := gb1_elim h; obtain ⟨mm34, h35, h⟩ := h
  refine x_putF 44 fp_S_26 rfl (g_nA _ _) (g_fA _ _) h35 d_S_init_44 ?_
  refine x_aloadn 47 0 d_S_init_47 rfl rfl ?_
  refine x_bipush 48 d_S_init_48 (v := (80 : Int32)) (by decide +kernel) ?_
  replace h := gb2_elim h; obtain ⟨v36, mm38, h37, h⟩ := h
  refine x_newZ 50 (by decide) rfl (gT_in0 59 rfl) h37 d_S_init_50 ?_
  replace h := gb1_elim h; obtain ⟨mm39, h40, h⟩ := h
  refine x_putF 52 fp_S_30 rfl (g_nA _ _) (g_fA _ _) h40 d_S_init_52 ?_
  refine x_aloadn 55 0 d_S_init_55 rfl rfl ?_
  replace h := gb2_elim h; obtain ⟨v41, mm43, h42, h⟩ := h
  refine x_new 56 nw_S_34 h42 d_S_init_56 ?_
  refine x_dup 59 d_S_init_59 rfl ?_
  replace h := gb1_elim h; obtain ⟨b47, h48, h⟩ := h
  subst h48
  replace h := gb2_elim h; obtain ⟨v44, mm45, h46, h⟩ := h
  refine x_callI 60 0 (as := []) (st' := [.inr (.inr (some b47)), .inr (.inr (some b))]) (k_Current_init h46) cf_S_36 ⟨rfl, by decide +kernel, by decide, by decide, Nat.le_of_ble_eq_true rfl⟩ rfl d_S_init_60 ?_
  replace h := gb1_elim h; obtain ⟨mm49, h50, h⟩ := h
  refine x_putF 63 fp_S_37 rfl (g_nR _ _) (g_fR _ _) h50 d_S_init_63 ?_
  refine x_aloadn 66 0 d_S_init_66 rfl rfl ?_
  refine x_iconst 67 d_S_init_67 (v := (0 : Int32)) (by decide +kernel) ?_
  replace h := gb1_elim h; obtain ⟨mm51, h52, h⟩ := h
  refine x_putV 68 fp_S_41 rfl rfl h52 d_S_init_68 ?_
  cases h
  exact x_return 71 rfl d_S_init_71
theorem k_S_init {b : Nat} {r : Unit} {mm res : gM} (h : F_S_init b mm = some (r, res)) : ∀ (l : Launch) (E : gD), gLe mm res ∧ gMet l E Y_S_init y_S_init [.inr (.inr (some b))] none mm res :=
  fun l E => ⟨(w_S_init (l := l) (E := E) (n0 := 0) (s0 := 0) h).1, x_met (by decide +kernel) rfl rfl rfl (Nat.le_of_ble_eq_true rfl) (w_S_init h)⟩
theorem d_M_init_0 : decode b_M_init 0 = .ok (.aload_n 0, 1) := by decide +kernel
theorem d_M_init_1 : decode b_M_init 1 = .ok (.invokespecial 1, 3) := by decide +kernel
theorem d_M_init_4 : decode b_M_init 4 = .ok (.aload_n 0, 1) := by decide +kernel
theorem d_M_init_5 : decode b_M_init 5 = .ok (.bipush 8, 2) := by decide +kernel
theorem d_M_init_7 : decode b_M_init 7 = .ok (.newarray .boolean, 2) := by decide +kernel
theorem d_M_init_9 : decode b_M_init 9 = .ok (.putfield 7, 3) := by decide +kernel
theorem d_M_init_12 : decode b_M_init 12 = .ok (.aload_n 0, 1) := by decide +kernel
theorem d_M_init_13 : decode b_M_init 13 = .ok (.sipush 200, 3) := by decide +kernel
theorem d_M_init_16 : decode b_M_init 16 = .ok (.newarray .int, 2) := by decide +kernel
theorem d_M_init_18 : decode b_M_init 18 = .ok (.putfield 13, 3) := by decide +kernel
theorem d_M_init_21 : decode b_M_init 21 = .ok (.aload_n 0, 1) := by decide +kernel
theorem d_M_init_22 : decode b_M_init 22 = .ok (.sipush 200, 3) := by decide +kernel
theorem d_M_init_25 : decode b_M_init 25 = .ok (.newarray .int, 2) := by decide +kernel
theorem d_M_init_27 : decode b_M_init 27 = .ok (.putfield 17, 3) := by decide +kernel
theorem d_M_init_30 : decode b_M_init 30 = .ok (.aload_n 0, 1) := by decide +kernel
theorem d_M_init_31 : decode b_M_init 31 = .ok (.sipush 200, 3) := by decide +kernel
theorem d_M_init_34 : decode b_M_init 34 = .ok (.newarray .int, 2) := by decide +kernel
theorem d_M_init_36 : decode b_M_init 36 = .ok (.putfield 20, 3) := by decide +kernel
theorem d_M_init_39 : decode b_M_init 39 = .ok (.aload_n 0, 1) := by decide +kernel
theorem d_M_init_40 : decode b_M_init 40 = .ok (.sipush 200, 3) := by decide +kernel
theorem d_M_init_43 : decode b_M_init 43 = .ok (.newarray .int, 2) := by decide +kernel
theorem d_M_init_45 : decode b_M_init 45 = .ok (.putfield 23, 3) := by decide +kernel
theorem d_M_init_48 : decode b_M_init 48 = .ok (.aload_n 0, 1) := by decide +kernel
theorem d_M_init_49 : decode b_M_init 49 = .ok (.sipush 200, 3) := by decide +kernel
theorem d_M_init_52 : decode b_M_init 52 = .ok (.newarray .long, 2) := by decide +kernel
theorem d_M_init_54 : decode b_M_init 54 = .ok (.putfield 26, 3) := by decide +kernel
theorem d_M_init_57 : decode b_M_init 57 = .ok (.aload_n 0, 1) := by decide +kernel
theorem d_M_init_58 : decode b_M_init 58 = .ok (.sipush 200, 3) := by decide +kernel
theorem d_M_init_61 : decode b_M_init 61 = .ok (.newarray .int, 2) := by decide +kernel
theorem d_M_init_63 : decode b_M_init 63 = .ok (.putfield 30, 3) := by decide +kernel
theorem d_M_init_66 : decode b_M_init 66 = .ok (.aload_n 0, 1) := by decide +kernel
theorem d_M_init_67 : decode b_M_init 67 = .ok (.sipush 4800, 3) := by decide +kernel
theorem d_M_init_70 : decode b_M_init 70 = .ok (.newarray .boolean, 2) := by decide +kernel
theorem d_M_init_72 : decode b_M_init 72 = .ok (.putfield 33, 3) := by decide +kernel
theorem d_M_init_75 : decode b_M_init 75 = .ok (.aload_n 0, 1) := by decide +kernel
theorem d_M_init_76 : decode b_M_init 76 = .ok (.sipush 960, 3) := by decide +kernel
theorem d_M_init_79 : decode b_M_init 79 = .ok (.newarray .boolean, 2) := by decide +kernel
theorem d_M_init_81 : decode b_M_init 81 = .ok (.putfield 36, 3) := by decide +kernel
theorem d_M_init_84 : decode b_M_init 84 = .ok (.aload_n 0, 1) := by decide +kernel
theorem d_M_init_85 : decode b_M_init 85 = .ok (.bipush 12, 2) := by decide +kernel
theorem d_M_init_87 : decode b_M_init 87 = .ok (.newarray .boolean, 2) := by decide +kernel
theorem d_M_init_89 : decode b_M_init 89 = .ok (.putfield 39, 3) := by decide +kernel
theorem d_M_init_92 : decode b_M_init 92 = .ok (.aload_n 0, 1) := by decide +kernel
theorem d_M_init_93 : decode b_M_init 93 = .ok (.bipush 40, 2) := by decide +kernel
theorem d_M_init_95 : decode b_M_init 95 = .ok (.newarray .int, 2) := by decide +kernel
theorem d_M_init_97 : decode b_M_init 97 = .ok (.putfield 42, 3) := by decide +kernel
theorem d_M_init_100 : decode b_M_init 100 = .ok (.aload_n 0, 1) := by decide +kernel
theorem d_M_init_101 : decode b_M_init 101 = .ok (.bipush 40, 2) := by decide +kernel
theorem d_M_init_103 : decode b_M_init 103 = .ok (.newarray .int, 2) := by decide +kernel
theorem d_M_init_105 : decode b_M_init 105 = .ok (.putfield 45, 3) := by decide +kernel
theorem d_M_init_108 : decode b_M_init 108 = .ok (.aload_n 0, 1) := by decide +kernel
theorem d_M_init_109 : decode b_M_init 109 = .ok (.bipush 40, 2) := by decide +kernel
theorem d_M_init_111 : decode b_M_init 111 = .ok (.newarray .int, 2) := by decide +kernel
theorem d_M_init_113 : decode b_M_init 113 = .ok (.putfield 48, 3) := by decide +kernel
theorem d_M_init_116 : decode b_M_init 116 = .ok (.aload_n 0, 1) := by decide +kernel
theorem d_M_init_117 : decode b_M_init 117 = .ok (.sipush 8000, 3) := by decide +kernel
theorem d_M_init_120 : decode b_M_init 120 = .ok (.newarray .boolean, 2) := by decide +kernel
theorem d_M_init_122 : decode b_M_init 122 = .ok (.putfield 51, 3) := by decide +kernel
theorem d_M_init_125 : decode b_M_init 125 = .ok (.aload_n 0, 1) := by decide +kernel
theorem d_M_init_126 : decode b_M_init 126 = .ok (.bipush 80, 2) := by decide +kernel
theorem d_M_init_128 : decode b_M_init 128 = .ok (.newarray .boolean, 2) := by decide +kernel
theorem d_M_init_130 : decode b_M_init 130 = .ok (.putfield 54, 3) := by decide +kernel
theorem d_M_init_133 : decode b_M_init 133 = .ok (.aload_n 0, 1) := by decide +kernel
theorem d_M_init_134 : decode b_M_init 134 = .ok (.bipush 8, 2) := by decide +kernel
theorem d_M_init_136 : decode b_M_init 136 = .ok (.newarray .int, 2) := by decide +kernel
theorem d_M_init_138 : decode b_M_init 138 = .ok (.putfield 57, 3) := by decide +kernel
theorem d_M_init_141 : decode b_M_init 141 = .ok (.aload_n 0, 1) := by decide +kernel
theorem d_M_init_142 : decode b_M_init 142 = .ok (.bipush 48, 2) := by decide +kernel
theorem d_M_init_144 : decode b_M_init 144 = .ok (.newarray .int, 2) := by decide +kernel
theorem d_M_init_146 : decode b_M_init 146 = .ok (.putfield 60, 3) := by decide +kernel
theorem d_M_init_149 : decode b_M_init 149 = .ok (.aload_n 0, 1) := by decide +kernel
theorem d_M_init_150 : decode b_M_init 150 = .ok (.bipush 48, 2) := by decide +kernel
theorem d_M_init_152 : decode b_M_init 152 = .ok (.newarray .int, 2) := by decide +kernel
theorem d_M_init_154 : decode b_M_init 154 = .ok (.putfield 63, 3) := by decide +kernel
theorem d_M_init_157 : decode b_M_init 157 = .ok (.aload_n 0, 1) := by decide +kernel
theorem d_M_init_158 : decode b_M_init 158 = .ok (.ldc 66, 2) := by decide +kernel
theorem d_M_init_160 : decode b_M_init 160 = .ok (.newarray .boolean, 2) := by decide +kernel
theorem d_M_init_162 : decode b_M_init 162 = .ok (.putfield 67, 3) := by decide +kernel
theorem d_M_init_165 : decode b_M_init 165 = .ok (.aload_n 0, 1) := by decide +kernel
theorem d_M_init_166 : decode b_M_init 166 = .ok (.bipush 8, 2) := by decide +kernel
theorem d_M_init_168 : decode b_M_init 168 = .ok (.newarray .int, 2) := by decide +kernel
theorem d_M_init_170 : decode b_M_init 170 = .ok (.putfield 70, 3) := by decide +kernel
theorem d_M_init_173 : decode b_M_init 173 = .ok (.aload_n 0, 1) := by decide +kernel
theorem d_M_init_174 : decode b_M_init 174 = .ok (.bipush 48, 2) := by decide +kernel
theorem d_M_init_176 : decode b_M_init 176 = .ok (.newarray .long, 2) := by decide +kernel
theorem d_M_init_178 : decode b_M_init 178 = .ok (.putfield 73, 3) := by decide +kernel
theorem d_M_init_181 : decode b_M_init 181 = .ok (.aload_n 0, 1) := by decide +kernel
theorem d_M_init_182 : decode b_M_init 182 = .ok (.bipush 48, 2) := by decide +kernel
theorem d_M_init_184 : decode b_M_init 184 = .ok (.newarray .long, 2) := by decide +kernel
theorem d_M_init_186 : decode b_M_init 186 = .ok (.putfield 76, 3) := by decide +kernel
theorem d_M_init_189 : decode b_M_init 189 = .ok (.aload_n 0, 1) := by decide +kernel
theorem d_M_init_190 : decode b_M_init 190 = .ok (.sipush 200, 3) := by decide +kernel
theorem d_M_init_193 : decode b_M_init 193 = .ok (.newarray .boolean, 2) := by decide +kernel
theorem d_M_init_195 : decode b_M_init 195 = .ok (.putfield 79, 3) := by decide +kernel
theorem d_M_init_198 : decode b_M_init 198 = .ok (.return_, 1) := by decide +kernel
def F_M_init (b : Nat) (mm : gM) : Option (Unit × gM) :=
  gb2 (gnI 2 (8 : Int32) mm) fun v1 mm3 =>
  gb1 (gpV 10 1 (some b) (va_rf v1) mm3) fun mm4 =>
  gb2 (gnI 0 (200 : Int32) mm4) fun v6 mm8 =>
  gb1 (gpV 10 3 (some b) (va_rf v6) mm8) fun mm9 =>
  gb2 (gnI 0 (200 : Int32) mm9) fun v11 mm13 =>
  gb1 (gpV 10 4 (some b) (va_rf v11) mm13) fun mm14 =>
  gb2 (gnI 0 (200 : Int32) mm14) fun v16 mm18 =>
  gb1 (gpV 10 5 (some b) (va_rf v16) mm18) fun mm19 =>
  gb2 (gnI 0 (200 : Int32) mm19) fun v21 mm23 =>
  gb1 (gpV 10 6 (some b) (va_rf v21) mm23) fun mm24 =>
  gb2 (gnL 1 (200 : Int32) mm24) fun v26 mm28 =>
  gb1 (gpV 10 7 (some b) (va_rf v26) mm28) fun mm29 =>
  gb2 (gnI 0 (200 : Int32) mm29) fun v31 mm33 =>
  gb1 (gpV 10 8 (some b) (va_rf v31) mm33) fun mm34 =>
  gb2 (gnI 2 (4800 : Int32) mm34) fun v36 mm38 =>
  gb1 (gpV 10 10 (some b) (va_rf v36) mm38) fun mm39 =>
  gb2 (gnI 2 (960 : Int32) mm39) fun v41 mm43 =>
  gb1 (gpV 10 11 (some b) (va_rf v41) mm43) fun mm44 =>
  gb2 (gnI 2 (12 : Int32) mm44) fun v46 mm48 =>
  gb1 (gpV 10 12 (some b) (va_rf v46) mm48) fun mm49 =>
  gb2 (gnI 0 (40 : Int32) mm49) fun v51 mm53 =>
  gb1 (gpV 10 14 (some b) (va_rf v51) mm53) fun mm54 =>
  gb2 (gnI 0 (40 : Int32) mm54) fun v56 mm58 =>
  gb1 (gpV 10 15 (some b) (va_rf v56) mm58) fun mm59 =>
  gb2 (gnI 0 (40 : Int32) mm59) fun v61 mm63 =>
  gb1 (gpV 10 16 (some b) (va_rf v61) mm63) fun mm64 =>
  gb2 (gnI 2 (8000 : Int32) mm64) fun v66 mm68 =>
  gb1 (gpV 10 17 (some b) (va_rf v66) mm68) fun mm69 =>
  gb2 (gnI 2 (80 : Int32) mm69) fun v71 mm73 =>
  gb1 (gpV 10 18 (some b) (va_rf v71) mm73) fun mm74 =>
  gb2 (gnI 0 (8 : Int32) mm74) fun v76 mm78 =>
  gb1 (gpV 10 19 (some b) (va_rf v76) mm78) fun mm79 =>
  gb2 (gnI 0 (48 : Int32) mm79) fun v81 mm83 =>
  gb1 (gpV 10 20 (some b) (va_rf v81) mm83) fun mm84 =>
  gb2 (gnI 0 (48 : Int32) mm84) fun v86 mm88 =>
  gb1 (gpV 10 21 (some b) (va_rf v86) mm88) fun mm89 =>
  gb2 (gnI 2 (80000 : Int32) mm89) fun v91 mm93 =>
  gb1 (gpV 10 22 (some b) (va_rf v91) mm93) fun mm94 =>
  gb2 (gnI 0 (8 : Int32) mm94) fun v96 mm98 =>
  gb1 (gpV 10 23 (some b) (va_rf v96) mm98) fun mm99 =>
  gb2 (gnL 1 (48 : Int32) mm99) fun v101 mm103 =>
  gb1 (gpV 10 24 (some b) (va_rf v101) mm103) fun mm104 =>
  gb2 (gnL 1 (48 : Int32) mm104) fun v106 mm108 =>
  gb1 (gpV 10 25 (some b) (va_rf v106) mm108) fun mm109 =>
  gb2 (gnI 2 (200 : Int32) mm109) fun v111 mm113 =>
  gb1 (gpV 10 26 (some b) (va_rf v111) mm113) fun mm114 =>
  some ((), mm114)
set_option maxHeartbeats 8000000 in
set_option maxRecDepth 100000 in
theorem w_M_init {l : Launch} {E : gD} {n0 s0 : Nat} {b : Nat} {r : Unit} {mm res : gM} (h : F_M_init b mm = some (r, res)) : xX l E Y_M_init n0 s0 none res 0 [(0, .inr (.inr (some b)))] [] mm := by
  unfold F_M_init at h
  refine x_aloadn 0 0 d_M_init_0 rfl rfl ?_
  refine x_objinit 1 rfl (gT_in3 61 rfl) (gT_in0 26 rfl) (gT_in0 27 rfl) (by decide) (by decide) d_M_init_1 ?_
  refine x_aloadn 4 0 d_M_init_4 rfl rfl ?_
  refine x_bipush 5 d_M_init_5 (v := (8 : Int32)) (by decide +kernel) ?_
  replace h := gb2_elim h; obtain ⟨v1, mm3, h2, h⟩ := h
  refine x_newZ 7 (by decide) rfl (gT_in0 59 rfl) h2 d_M_init_7 ?_
  replace h := gb1_elim h; obtain ⟨mm4, h5, h⟩ := h
  refine x_putF 9 fp_M_7 rfl (g_nA _ _) (g_fA _ _) h5 d_M_init_9 ?_
  refine x_aloadn 12 0 d_M_init_12 rfl rfl ?_
  refine x_sipush 13 d_M_init_13 (v := (200 : Int32)) (by decide +kernel) ?_
  replace h := gb2_elim h; obtain ⟨v6, mm8, h7, h⟩ := h
  refine x_newI 16 (by decide) rfl (gT_in0 60 rfl) h7 d_M_init_16 ?_
  replace h := gb1_elim h; obtain ⟨mm9, h10, h⟩ := h
  refine x_putF 18 fp_M_13 rfl (g_nA _ _) (g_fA _ _) h10 d_M_init_18 ?_
  refine x_aloadn 21 0 d_M_init_21 rfl rfl ?_
  refine x_sipush 22 d_M_init_22 (v := (200 : Int32)) (by decide +kernel) ?_
  replace h := gb2_elim h; obtain ⟨v11, mm13, h12, h⟩ := h
  refine x_newI 25 (by decide) rfl (gT_in0 60 rfl) h12 d_M_init_25 ?_
  replace h := gb1_elim h; obtain ⟨mm14, h15, h⟩ := h
  refine x_putF 27 fp_M_17 rfl (g_nA _ _) (g_fA _ _) h15 d_M_init_27 ?_
  refine x_aloadn 30 0 d_M_init_30 rfl rfl ?_
  refine x_sipush 31 d_M_init_31 (v := (200 : Int32)) (by decide +kernel) ?_
  replace h := gb2_elim h; obtain ⟨v16, mm18, h17, h⟩ := h
  refine x_newI 34 (by decide) rfl (gT_in0 60 rfl) h17 d_M_init_34 ?_
  replace h := gb1_elim h; obtain ⟨mm19, h20, h⟩ := h
  refine x_putF 36 fp_M_20 rfl (g_nA _ _) (g_fA _ _) h20 d_M_init_36 ?_
  refine x_aloadn 39 0 d_M_init_39 rfl rfl ?_
  refine x_sipush 40 d_M_init_40 (v := (200 : Int32)) (by decide +kernel) ?_
  replace h := gb2_elim h; obtain ⟨v21, mm23, h22, h⟩ := h
  refine x_newI 43 (by decide) rfl (gT_in0 60 rfl) h22 d_M_init_43 ?_
  replace h := gb1_elim h; obtain ⟨mm24, h25, h⟩ := h
  refine x_putF 45 fp_M_23 rfl (g_nA _ _) (g_fA _ _) h25 d_M_init_45 ?_
  refine x_aloadn 48 0 d_M_init_48 rfl rfl ?_
  refine x_sipush 49 d_M_init_49 (v := (200 : Int32)) (by decide +kernel) ?_
  replace h := gb2_elim h; obtain ⟨v26, mm28, h27, h⟩ := h
  refine x_newL 52 (by decide) rfl (gT_in0 61 rfl) h27 d_M_init_52 ?_
  replace h := gb1_elim h; obtain ⟨mm29, h30, h⟩ := h
  refine x_putF 54 fp_M_26 rfl (g_nA _ _) (g_fA _ _) h30 d_M_init_54 ?_
  refine x_aloadn 57 0 d_M_init_57 rfl rfl ?_
  refine x_sipush 58 d_M_init_58 (v := (200 : Int32)) (by decide +kernel) ?_
  replace h := gb2_elim h; obtain ⟨v31, mm33, h32, h⟩ := h
  refine x_newI 61 (by decide) rfl (gT_in0 60 rfl) h32 d_M_init_61 ?_
  replace h := gb1_elim h; obtain ⟨mm34, h35, h⟩ := h
  refine x_putF 63 fp_M_30 rfl (g_nA _ _) (g_fA _ _) h35 d_M_init_63 ?_
  refine x_aloadn 66 0 d_M_init_66 rfl rfl ?_
  refine x_sipush 67 d_M_init_67 (v := (4800 : Int32)) (by decide +kernel) ?_
  replace h := gb2_elim h; obtain ⟨v36, mm38, h37, h⟩ := h
  refine x_newZ 70 (by decide) rfl (gT_in0 59 rfl) h37 d_M_init_70 ?_
  replace h := gb1_elim h; obtain ⟨mm39, h40, h⟩ := h
  refine x_putF 72 fp_M_33 rfl (g_nA _ _) (g_fA _ _) h40 d_M_init_72 ?_
  refine x_aloadn 75 0 d_M_init_75 rfl rfl ?_
  refine x_sipush 76 d_M_init_76 (v := (960 : Int32)) (by decide +kernel) ?_
  replace h := gb2_elim h; obtain ⟨v41, mm43, h42, h⟩ := h
  refine x_newZ 79 (by decide) rfl (gT_in0 59 rfl) h42 d_M_init_79 ?_
  replace h := gb1_elim h; obtain ⟨mm44, h45, h⟩ := h
  refine x_putF 81 fp_M_36 rfl (g_nA _ _) (g_fA _ _) h45 d_M_init_81 ?_
  refine x_aloadn 84 0 d_M_init_84 rfl rfl ?_
  refine x_bipush 85 d_M_init_85 (v := (12 : Int32)) (by decide +kernel) ?_
  replace h := gb2_elim h; obtain ⟨v46, mm48, h47, h⟩ := h
  refine x_newZ 87 (by decide) rfl (gT_in0 59 rfl) h47 d_M_init_87 ?_
  replace h := gb1_elim h; obtain ⟨mm49, h50, h⟩ := h
  refine x_putF 89 fp_M_39 rfl (g_nA _ _) (g_fA _ _) h50 d_M_init_89 ?_
  refine x_aloadn 92 0 d_M_init_92 rfl rfl ?_
  refine x_bipush 93 d_M_init_93 (v := (40 : Int32)) (by decide +kernel) ?_
  replace h := gb2_elim h; obtain ⟨v51, mm53, h52, h⟩ := h
  refine x_newI 95 (by decide) rfl (gT_in0 60 rfl) h52 d_M_init_95 ?_
  replace h := gb1_elim h; obtain ⟨mm54, h55, h⟩ := h
  refine x_putF 97 fp_M_42 rfl (g_nA _ _) (g_fA _ _) h55 d_M_init_97 ?_
  refine x_aloadn 100 0 d_M_init_100 rfl rfl ?_
  refine x_bipush 101 d_M_init_101 (v := (40 : Int32)) (by decide +kernel) ?_
  replace h := gb2_elim h; obtain ⟨v56, mm58, h57, h⟩ := h
  refine x_newI 103 (by decide) rfl (gT_in0 60 rfl) h57 d_M_init_103 ?_
  replace h := gb1_elim h; obtain ⟨mm59, h60, h⟩ := h
  refine x_putF 105 fp_M_45 rfl (g_nA _ _) (g_fA _ _) h60 d_M_init_105 ?_
  refine x_aloadn 108 0 d_M_init_108 rfl rfl ?_
  refine x_bipush 109 d_M_init_109 (v := (40 : Int32)) (by decide +kernel) ?_
  replace h := gb2_elim h; obtain ⟨v61, mm63, h62, h⟩ := h
  refine x_newI 111 (by decide) rfl (gT_in0 60 rfl) h62 d_M_init_111 ?_
  replace h := gb1_elim h; obtain ⟨mm64, h65, h⟩ := h
  refine x_putF 113 fp_M_48 rfl (g_nA _ _) (g_fA _ _) h65 d_M_init_113 ?_
  refine x_aloadn 116 0 d_M_init_116 rfl rfl ?_
  refine x_sipush 117 d_M_init_117 (v := (8000 : Int32)) (by decide +kernel) ?_
  replace h := gb2_elim h; obtain ⟨v66, mm68, h67, h⟩ := h
  refine x_newZ 120 (by decide) rfl (gT_in0 59 rfl) h67 d_M_init_120 ?_
  replace h := gb1_elim h; obtain ⟨mm69, h70, h⟩ := h
  refine x_putF 122 fp_M_51 rfl (g_nA _ _) (g_fA _ _) h70 d_M_init_122 ?_
  refine x_aloadn 125 0 d_M_init_125 rfl rfl ?_
  refine x_bipush 126 d_M_init_126 (v := (80 : Int32)) (by decide +kernel) ?_
  replace h := gb2_elim h; obtain ⟨v71, mm73, h72, h⟩ := h
  refine x_newZ 128 (by decide) rfl (gT_in0 59 rfl) h72 d_M_init_128 ?_
  replace h := gb1_elim h; obtain ⟨mm74, h75, h⟩ := h
  refine x_putF 130 fp_M_54 rfl (g_nA _ _) (g_fA _ _) h75 d_M_init_130 ?_
  refine x_aloadn 133 0 d_M_init_133 rfl rfl ?_
  refine x_bipush 134 d_M_init_134 (v := (8 : Int32)) (by decide +kernel) ?_
  replace h := gb2_elim h; obtain ⟨v76, mm78, h77, h⟩ := h
  refine x_newI 136 (by decide) rfl (gT_in0 60 rfl) h77 d_M_init_136 ?_
  replace h := gb1_elim h; obtain ⟨mm79, h80, h⟩ := h
  refine x_putF 138 fp_M_57 rfl (g_nA _ _) (g_fA _ _) h80 d_M_init_138 ?_
  refine x_aloadn 141 0 d_M_init_141 rfl rfl ?_
  refine x_bipush 142 d_M_init_142 (v := (48 : Int32)) (by decide +kernel) ?_
  replace h := gb2_elim h; obtain ⟨v81, mm83, h82, h⟩ := h
  refine x_newI 144 (by decide) rfl (gT_in0 60 rfl) h82 d_M_init_144 ?_
  replace h := gb1_elim h; obtain ⟨mm84, h85, h⟩ := h
  refine x_putF 146 fp_M_60 rfl (g_nA _ _) (g_fA _ _) h85 d_M_init_146 ?_
  refine x_aloadn 149 0 d_M_init_149 rfl rfl ?_
  refine x_bipush 150 d_M_init_150 (v := (48 : Int32)) (by decide +kernel) ?_
  replace h := gb2_elim h; obtain ⟨v86, mm88, h87, h⟩ := h
  refine x_newI 152 (by decide) rfl (gT_in0 60 rfl) h87 d_M_init_152 ?_
  replace h := gb1_elim h; obtain ⟨mm89, h90, h⟩ := h
  refine x_putF 154 fp_M_63 rfl (g_nA _ _) (g_fA _ _) h90 d_M_init_154 ?_
  refine x_aloadn 157 0 d_M_init_157 rfl rfl ?_
  refine x_ldc 158 d_M_init_158 (v := (80000 : Int32)) (gT_in3 62 rfl) ?_
  replace h := gb2_elim h; obtain ⟨v91, mm93, h92, h⟩ := h
  refine x_newZ 160 (by decide) rfl (gT_in0 59 rfl) h92 d_M_init_160 ?_
  replace h := gb1_elim h; obtain ⟨mm94, h95, h⟩ := h
  refine x_putF 162 fp_M_67 rfl (g_nA _ _) (g_fA _ _) h95 d_M_init_162 ?_
  refine x_aloadn 165 0 d_M_init_165 rfl rfl ?_
  refine x_bipush 166 d_M_init_166 (v := (8 : Int32)) (by decide +kernel) ?_
  replace h := gb2_elim h; obtain ⟨v96, mm98, h97, h⟩ := h
  refine x_newI 168 (by decide) rfl (gT_in0 60 rfl) h97 d_M_init_168 ?_
  replace h := gb1_elim h; obtain ⟨mm99, h100, h⟩ := h
  refine x_putF 170 fp_M_70 rfl (g_nA _ _) (g_fA _ _) h100 d_M_init_170 ?_
  refine x_aloadn 173 0 d_M_init_173 rfl rfl ?_
  refine x_bipush 174 d_M_init_174 (v := (48 : Int32)) (by decide +kernel) ?_
  replace h := gb2_elim h; obtain ⟨v101, mm103, h102, h⟩ := h
  refine x_newL 176 (by decide) rfl (gT_in0 61 rfl) h102 d_M_init_176 ?_
  replace h := gb1_elim h; obtain ⟨mm104, h105, h⟩ := h
  refine x_putF 178 fp_M_73 rfl (g_nA _ _) (g_fA _ _) h105 d_M_init_178 ?_
  refine x_aloadn 181 0 d_M_init_181 rfl rfl ?_
  refine x_bipush 182 d_M_init_182 (v := (48 : Int32)) (by decide +kernel) ?_
  replace h := gb2_elim h; obtain ⟨v106, mm108, h107, h⟩ := h
  refine x_newL 184 (by decide) rfl (gT_in0 61 rfl) h107 d_M_init_184 ?_
  replace h := gb1_elim h; obtain ⟨mm109, h110, h⟩ := h
  refine x_putF 186 fp_M_76 rfl (g_nA _ _) (g_fA _ _) h110 d_M_init_186 ?_
  refine x_aloadn 189 0 d_M_init_189 rfl rfl ?_
  refine x_sipush 190 d_M_init_190 (v := (200 : Int32)) (by decide +kernel) ?_
  replace h := gb2_elim h; obtain ⟨v111, mm113, h112, h⟩ := h
  refine x_newZ 193 (by decide) rfl (gT_in0 59 rfl) h112 d_M_init_193 ?_
  replace h := gb1_elim h; obtain ⟨mm114, h115, h⟩ := h
  refine x_putF 195 fp_M_79 rfl (g_nA _ _) (g_fA _ _) h115 d_M_init_195 ?_
  cases h
  exact x_return 198 rfl d_M_init_198
theorem k_M_init {b : Nat} {r : Unit} {mm res : gM} (h : F_M_init b mm = some (r, res)) : ∀ (l : Launch) (E : gD), gLe mm res ∧ gMet l E Y_M_init y_M_init [.inr (.inr (some b))] none mm res :=
  fun l E => ⟨(w_M_init (l := l) (E := E) (n0 := 0) (s0 := 0) h).1, x_met (by decide +kernel) rfl rfl rfl (Nat.le_of_ble_eq_true rfl) (w_M_init h)⟩
theorem d_AL_size_0 : decode b_AL_size 0 = .ok (.aload_n 0, 1) := by decide +kernel
theorem d_AL_size_1 : decode b_AL_size 1 = .ok (.getfield 48, 3) := by decide +kernel
theorem d_AL_size_4 : decode b_AL_size 4 = .ok (.ireturn, 1) := by decide +kernel
def F_AL_size (b : Nat) (mm : gM) : Option (Int32 × gM) :=
  gb1 (gfI 9 1 (some b) mm) fun v1 =>
  some (v1, mm)
set_option maxHeartbeats 8000000 in
set_option maxRecDepth 100000 in
theorem w_AL_size {l : Launch} {E : gD} {n0 s0 : Nat} {b : Nat} {r : Int32} {mm res : gM} (h : F_AL_size b mm = some (r, res)) : xX l E Y_AL_size n0 s0 (some (.int r)) res 0 [(0, .inr (.inr (some b)))] [] mm := by
  unfold F_AL_size at h
  refine x_aloadn 0 0 d_AL_size_0 rfl rfl ?_
  replace h := gb1_elim h; obtain ⟨v1, h2, h⟩ := h
  refine x_getI 1 h2 fl_AL_48 d_AL_size_1 ?_
  cases h
  exact x_ireturn 4 rfl d_AL_size_4
theorem k_AL_size {b : Nat} {r : Int32} {mm res : gM} (h : F_AL_size b mm = some (r, res)) : ∀ (l : Launch) (E : gD), gLe mm res ∧ gMet l E Y_AL_size y_AL_size [.inr (.inr (some b))] (some (.int r)) mm res :=
  fun l E => ⟨(w_AL_size (l := l) (E := E) (n0 := 0) (s0 := 0) h).1, x_met (by decide +kernel) rfl rfl rfl (Nat.le_of_ble_eq_true rfl) (w_AL_size h)⟩
theorem d_Blocks_init_0 : decode b_Blocks_init 0 = .ok (.aload_n 0, 1) := by decide +kernel
theorem d_Blocks_init_1 : decode b_Blocks_init 1 = .ok (.invokespecial 3, 3) := by decide +kernel
theorem d_Blocks_init_4 : decode b_Blocks_init 4 = .ok (.aload_n 0, 1) := by decide +kernel
theorem d_Blocks_init_5 : decode b_Blocks_init 5 = .ok (.bipush 6, 2) := by decide +kernel
theorem d_Blocks_init_7 : decode b_Blocks_init 7 = .ok (.newarray .int, 2) := by decide +kernel
theorem d_Blocks_init_9 : decode b_Blocks_init 9 = .ok (.putfield 9, 3) := by decide +kernel
theorem d_Blocks_init_12 : decode b_Blocks_init 12 = .ok (.aload_n 0, 1) := by decide +kernel
theorem d_Blocks_init_13 : decode b_Blocks_init 13 = .ok (.bipush 6, 2) := by decide +kernel
theorem d_Blocks_init_15 : decode b_Blocks_init 15 = .ok (.newarray .int, 2) := by decide +kernel
theorem d_Blocks_init_17 : decode b_Blocks_init 17 = .ok (.putfield 15, 3) := by decide +kernel
theorem d_Blocks_init_20 : decode b_Blocks_init 20 = .ok (.aload_n 0, 1) := by decide +kernel
theorem d_Blocks_init_21 : decode b_Blocks_init 21 = .ok (.bipush 6, 2) := by decide +kernel
theorem d_Blocks_init_23 : decode b_Blocks_init 23 = .ok (.newarray .int, 2) := by decide +kernel
theorem d_Blocks_init_25 : decode b_Blocks_init 25 = .ok (.putfield 18, 3) := by decide +kernel
theorem d_Blocks_init_28 : decode b_Blocks_init 28 = .ok (.aload_n 0, 1) := by decide +kernel
theorem d_Blocks_init_29 : decode b_Blocks_init 29 = .ok (.iconst 0, 1) := by decide +kernel
theorem d_Blocks_init_30 : decode b_Blocks_init 30 = .ok (.putfield 21, 3) := by decide +kernel
theorem d_Blocks_init_33 : decode b_Blocks_init 33 = .ok (.return_, 1) := by decide +kernel
def F_Blocks_init (b : Nat) (mm : gM) : Option (Unit × gM) :=
  gb2 (gnI 0 (6 : Int32) mm) fun v1 mm3 =>
  gb1 (gpV 2 0 (some b) (va_rf v1) mm3) fun mm4 =>
  gb2 (gnI 0 (6 : Int32) mm4) fun v6 mm8 =>
  gb1 (gpV 2 1 (some b) (va_rf v6) mm8) fun mm9 =>
  gb2 (gnI 0 (6 : Int32) mm9) fun v11 mm13 =>
  gb1 (gpV 2 2 (some b) (va_rf v11) mm13) fun mm14 =>
  gb1 (gpV 2 3 (some b) (.int (0 : Int32)) mm14) fun mm16 =>
  some ((), mm16)
set_option maxHeartbeats 8000000 in
set_option maxRecDepth 100000 in
theorem w_Blocks_init {l : Launch} {E : gD} {n0 s0 : Nat} {b : Nat} {r : Unit} {mm res : gM} (h : F_Blocks_init b mm = some (r, res)) : xX l E Y_Blocks_init n0 s0 none res 0 [(0, .inr (.inr (some b)))] [] mm := by
  unfold F_Blocks_init at h
  refine x_aloadn 0 0 d_Blocks_init_0 rfl rfl ?_
  refine x_objinit 1 rfl (gT_in0 95 rfl) (gT_in0 26 rfl) (gT_in0 27 rfl) (by decide) (by decide) d_Blocks_init_1 ?_
  refine x_aloadn 4 0 d_Blocks_init_4 rfl rfl ?_
  refine x_bipush 5 d_Blocks_init_5 (v := (6 : Int32)) (by decide +kernel) ?_
  replace h := gb2_elim h; obtain ⟨v1, mm3, h2, h⟩ := h
  refine x_newI 7 (by decide) rfl (gT_in0 60 rfl) h2 d_Blocks_init_7 ?_
  replace h := gb1_elim h; obtain ⟨mm4, h5, h⟩ := h
  refine x_putF 9 fp_Blocks_9 rfl (g_nA _ _) (g_fA _ _) h5 d_Blocks_init_9 ?_
  refine x_aloadn 12 0 d_Blocks_init_12 rfl rfl ?_
  refine x_bipush 13 d_Blocks_init_13 (v := (6 : Int32)) (by decide +kernel) ?_
  replace h := gb2_elim h; obtain ⟨v6, mm8, h7, h⟩ := h
  refine x_newI 15 (by decide) rfl (gT_in0 60 rfl) h7 d_Blocks_init_15 ?_
  replace h := gb1_elim h; obtain ⟨mm9, h10, h⟩ := h
  refine x_putF 17 fp_Blocks_15 rfl (g_nA _ _) (g_fA _ _) h10 d_Blocks_init_17 ?_
  refine x_aloadn 20 0 d_Blocks_init_20 rfl rfl ?_
  refine x_bipush 21 d_Blocks_init_21 (v := (6 : Int32)) (by decide +kernel) ?_
  replace h := gb2_elim h; obtain ⟨v11, mm13, h12, h⟩ := h
  refine x_newI 23 (by decide) rfl (gT_in0 60 rfl) h12 d_Blocks_init_23 ?_
  replace h := gb1_elim h; obtain ⟨mm14, h15, h⟩ := h
  refine x_putF 25 fp_Blocks_18 rfl (g_nA _ _) (g_fA _ _) h15 d_Blocks_init_25 ?_
  refine x_aloadn 28 0 d_Blocks_init_28 rfl rfl ?_
  refine x_iconst 29 d_Blocks_init_29 (v := (0 : Int32)) (by decide +kernel) ?_
  replace h := gb1_elim h; obtain ⟨mm16, h17, h⟩ := h
  refine x_putV 30 fp_Blocks_21 rfl rfl h17 d_Blocks_init_30 ?_
  cases h
  exact x_return 33 rfl d_Blocks_init_33
theorem k_Blocks_init {b : Nat} {r : Unit} {mm res : gM} (h : F_Blocks_init b mm = some (r, res)) : ∀ (l : Launch) (E : gD), gLe mm res ∧ gMet l E Y_Blocks_init y_Blocks_init [.inr (.inr (some b))] none mm res :=
  fun l E => ⟨(w_Blocks_init (l := l) (E := E) (n0 := 0) (s0 := 0) h).1, x_met (by decide +kernel) rfl rfl rfl (Nat.le_of_ble_eq_true rfl) (w_Blocks_init h)⟩
theorem d_Clock_init_0 : decode b_Clock_init 0 = .ok (.aload_n 0, 1) := by decide +kernel
theorem d_Clock_init_1 : decode b_Clock_init 1 = .ok (.invokespecial 3, 3) := by decide +kernel
theorem d_Clock_init_4 : decode b_Clock_init 4 = .ok (.aload_n 0, 1) := by decide +kernel
theorem d_Clock_init_5 : decode b_Clock_init 5 = .ok (.bipush 6, 2) := by decide +kernel
theorem d_Clock_init_7 : decode b_Clock_init 7 = .ok (.newarray .long, 2) := by decide +kernel
theorem d_Clock_init_9 : decode b_Clock_init 9 = .ok (.putfield 9, 3) := by decide +kernel
theorem d_Clock_init_12 : decode b_Clock_init 12 = .ok (.aload_n 0, 1) := by decide +kernel
theorem d_Clock_init_13 : decode b_Clock_init 13 = .ok (.bipush 6, 2) := by decide +kernel
theorem d_Clock_init_15 : decode b_Clock_init 15 = .ok (.newarray .long, 2) := by decide +kernel
theorem d_Clock_init_17 : decode b_Clock_init 17 = .ok (.putfield 15, 3) := by decide +kernel
theorem d_Clock_init_20 : decode b_Clock_init 20 = .ok (.aload_n 0, 1) := by decide +kernel
theorem d_Clock_init_21 : decode b_Clock_init 21 = .ok (.iconst 0, 1) := by decide +kernel
theorem d_Clock_init_22 : decode b_Clock_init 22 = .ok (.putfield 18, 3) := by decide +kernel
theorem d_Clock_init_25 : decode b_Clock_init 25 = .ok (.return_, 1) := by decide +kernel
def F_Clock_init (b : Nat) (mm : gM) : Option (Unit × gM) :=
  gb2 (gnL 1 (6 : Int32) mm) fun v1 mm3 =>
  gb1 (gpV 3 0 (some b) (va_rf v1) mm3) fun mm4 =>
  gb2 (gnL 1 (6 : Int32) mm4) fun v6 mm8 =>
  gb1 (gpV 3 1 (some b) (va_rf v6) mm8) fun mm9 =>
  gb1 (gpV 3 2 (some b) (.int (0 : Int32)) mm9) fun mm11 =>
  some ((), mm11)
set_option maxHeartbeats 8000000 in
set_option maxRecDepth 100000 in
theorem w_Clock_init {l : Launch} {E : gD} {n0 s0 : Nat} {b : Nat} {r : Unit} {mm res : gM} (h : F_Clock_init b mm = some (r, res)) : xX l E Y_Clock_init n0 s0 none res 0 [(0, .inr (.inr (some b)))] [] mm := by
  unfold F_Clock_init at h
  refine x_aloadn 0 0 d_Clock_init_0 rfl rfl ?_
  refine x_objinit 1 rfl (gT_in0 108 rfl) (gT_in0 26 rfl) (gT_in0 27 rfl) (by decide) (by decide) d_Clock_init_1 ?_
  refine x_aloadn 4 0 d_Clock_init_4 rfl rfl ?_
  refine x_bipush 5 d_Clock_init_5 (v := (6 : Int32)) (by decide +kernel) ?_
  replace h := gb2_elim h; obtain ⟨v1, mm3, h2, h⟩ := h
  refine x_newL 7 (by decide) rfl (gT_in0 61 rfl) h2 d_Clock_init_7 ?_
  replace h := gb1_elim h; obtain ⟨mm4, h5, h⟩ := h
  refine x_putF 9 fp_Clock_9 rfl (g_nA _ _) (g_fA _ _) h5 d_Clock_init_9 ?_
  refine x_aloadn 12 0 d_Clock_init_12 rfl rfl ?_
  refine x_bipush 13 d_Clock_init_13 (v := (6 : Int32)) (by decide +kernel) ?_
  replace h := gb2_elim h; obtain ⟨v6, mm8, h7, h⟩ := h
  refine x_newL 15 (by decide) rfl (gT_in0 61 rfl) h7 d_Clock_init_15 ?_
  replace h := gb1_elim h; obtain ⟨mm9, h10, h⟩ := h
  refine x_putF 17 fp_Clock_15 rfl (g_nA _ _) (g_fA _ _) h10 d_Clock_init_17 ?_
  refine x_aloadn 20 0 d_Clock_init_20 rfl rfl ?_
  refine x_iconst 21 d_Clock_init_21 (v := (0 : Int32)) (by decide +kernel) ?_
  replace h := gb1_elim h; obtain ⟨mm11, h12, h⟩ := h
  refine x_putV 22 fp_Clock_18 rfl rfl h12 d_Clock_init_22 ?_
  cases h
  exact x_return 25 rfl d_Clock_init_25
theorem k_Clock_init {b : Nat} {r : Unit} {mm res : gM} (h : F_Clock_init b mm = some (r, res)) : ∀ (l : Launch) (E : gD), gLe mm res ∧ gMet l E Y_Clock_init y_Clock_init [.inr (.inr (some b))] none mm res :=
  fun l E => ⟨(w_Clock_init (l := l) (E := E) (n0 := 0) (s0 := 0) h).1, x_met (by decide +kernel) rfl rfl rfl (Nat.le_of_ble_eq_true rfl) (w_Clock_init h)⟩
