-- Teller_init ArraysSupport_hugeLength ArraysSupport_newLength Arrays_copyOf2 Arrays_copyOf AL_grow2 AL_grow AL_add2 AL_add S_teller
theorem d_Teller_init_0 : decode b_Teller_init 0 = .ok (.aload_n 0, 1) := by decide +kernel
theorem d_Teller_init_1 : decode b_Teller_init 1 = .ok (.invokespecial 3, 3) := by decide +kernel
theorem d_Teller_init_4 : decode b_Teller_init 4 = .ok (.aload_n 0, 1) := by decide +kernel
theorem d_Teller_init_5 : decode b_Teller_init 5 = .ok (.new 9, 3) := by decide +kernel
theorem d_Teller_init_8 : decode b_Teller_init 8 = .ok (.dup, 1) := by decide +kernel
theorem d_Teller_init_9 : decode b_Teller_init 9 = .ok (.invokespecial 11, 3) := by decide +kernel
theorem d_Teller_init_12 : decode b_Teller_init 12 = .ok (.putfield 12, 3) := by decide +kernel
theorem d_Teller_init_15 : decode b_Teller_init 15 = .ok (.aload_n 0, 1) := by decide +kernel
theorem d_Teller_init_16 : decode b_Teller_init 16 = .ok (.new 18, 3) := by decide +kernel
theorem d_Teller_init_19 : decode b_Teller_init 19 = .ok (.dup, 1) := by decide +kernel
theorem d_Teller_init_20 : decode b_Teller_init 20 = .ok (.invokespecial 20, 3) := by decide +kernel
theorem d_Teller_init_23 : decode b_Teller_init 23 = .ok (.putfield 21, 3) := by decide +kernel
theorem d_Teller_init_26 : decode b_Teller_init 26 = .ok (.aload_n 0, 1) := by decide +kernel
theorem d_Teller_init_27 : decode b_Teller_init 27 = .ok (.new 25, 3) := by decide +kernel
theorem d_Teller_init_30 : decode b_Teller_init 30 = .ok (.dup, 1) := by decide +kernel
theorem d_Teller_init_31 : decode b_Teller_init 31 = .ok (.invokespecial 27, 3) := by decide +kernel
theorem d_Teller_init_34 : decode b_Teller_init 34 = .ok (.putfield 28, 3) := by decide +kernel
theorem d_Teller_init_37 : decode b_Teller_init 37 = .ok (.aload_n 0, 1) := by decide +kernel
theorem d_Teller_init_38 : decode b_Teller_init 38 = .ok (.iconst 0, 1) := by decide +kernel
theorem d_Teller_init_39 : decode b_Teller_init 39 = .ok (.putfield 32, 3) := by decide +kernel
theorem d_Teller_init_42 : decode b_Teller_init 42 = .ok (.return_, 1) := by decide +kernel
def F_Teller_init (b : Nat) (mm : gM) : Option (Unit × gM) :=
  gb2 (gnO 9 [.null, .int 0, .int 0] 3 mm) fun v1 mm3 =>
  gb1 v1 fun b7 =>
  gb2 (F_AL_init b7  mm3) fun v4 mm5 =>
  gb1 (gpV 1 0 (some b) (va_rf (some b7)) mm5) fun mm9 =>
  gb2 (gnO 2 [.null, .null, .null, .int 0] 4 mm9) fun v11 mm13 =>
  gb1 v11 fun b17 =>
  gb2 (F_Blocks_init b17  mm13) fun v14 mm15 =>
  gb1 (gpV 1 1 (some b) (va_rf (some b17)) mm15) fun mm19 =>
  gb2 (gnO 3 [.null, .null, .int 0] 3 mm19) fun v21 mm23 =>
  gb1 v21 fun b27 =>
  gb2 (F_Clock_init b27  mm23) fun v24 mm25 =>
  gb1 (gpV 1 2 (some b) (va_rf (some b27)) mm25) fun mm29 =>
  gb1 (gpV 1 3 (some b) (.int (0 : Int32)) mm29) fun mm31 =>
  some ((), mm31)
set_option maxHeartbeats 8000000 in
set_option maxRecDepth 100000 in
theorem w_Teller_init {l : Launch} {E : gD} {n0 s0 : Nat} {b : Nat} {r : Unit} {mm res : gM} (h : F_Teller_init b mm = some (r, res)) : xX l E Y_Teller_init n0 s0 none res 0 [(0, .inr (.inr (some b)))] [] mm := by
  unfold F_Teller_init at h
  refine x_aloadn 0 0 d_Teller_init_0 rfl rfl ?_
  refine x_objinit 1 rfl (gT_in0 88 rfl) (gT_in0 26 rfl) (gT_in0 27 rfl) (by decide) (by decide) d_Teller_init_1 ?_
  refine x_aloadn 4 0 d_Teller_init_4 rfl rfl ?_
  replace h := gb2_elim h; obtain ⟨v1, mm3, h2, h⟩ := h
  refine x_new 5 nw_Teller_9 h2 d_Teller_init_5 ?_
  refine x_dup 8 d_Teller_init_8 rfl ?_
  replace h := gb1_elim h; obtain ⟨b7, h8, h⟩ := h
  subst h8
  replace h := gb2_elim h; obtain ⟨v4, mm5, h6, h⟩ := h
  refine x_callI 9 0 (as := []) (st' := [.inr (.inr (some b7)), .inr (.inr (some b))]) (k_AL_init h6) cf_Teller_11 ⟨rfl, by decide +kernel, by decide, by decide, Nat.le_of_ble_eq_true rfl⟩ rfl d_Teller_init_9 ?_
  replace h := gb1_elim h; obtain ⟨mm9, h10, h⟩ := h
  refine x_putF 12 fp_Teller_12 rfl (g_nR _ _) (g_fR _ _) h10 d_Teller_init_12 ?_
  refine x_aloadn 15 0 d_Teller_init_15 rfl rfl ?_
  replace h := gb2_elim h; obtain ⟨v11, mm13, h12, h⟩ := h
  refine x_new 16 nw_Teller_18 h12 d_Teller_init_16 ?_
  refine x_dup 19 d_Teller_init_19 rfl ?_
  replace h := gb1_elim h; obtain ⟨b17, h18, h⟩ := h
  subst h18
  replace h := gb2_elim h; obtain ⟨v14, mm15, h16, h⟩ := h
  refine x_callI 20 0 (as := []) (st' := [.inr (.inr (some b17)), .inr (.inr (some b))]) (k_Blocks_init h16) cf_Teller_20 ⟨rfl, by decide +kernel, by decide, by decide, Nat.le_of_ble_eq_true rfl⟩ rfl d_Teller_init_20 ?_
  replace h := gb1_elim h; obtain ⟨mm19, h20, h⟩ := h
  refine x_putF 23 fp_Teller_21 rfl (g_nR _ _) (g_fR _ _) h20 d_Teller_init_23 ?_
  refine x_aloadn 26 0 d_Teller_init_26 rfl rfl ?_
  replace h := gb2_elim h; obtain ⟨v21, mm23, h22, h⟩ := h
  refine x_new 27 nw_Teller_25 h22 d_Teller_init_27 ?_
  refine x_dup 30 d_Teller_init_30 rfl ?_
  replace h := gb1_elim h; obtain ⟨b27, h28, h⟩ := h
  subst h28
  replace h := gb2_elim h; obtain ⟨v24, mm25, h26, h⟩ := h
  refine x_callI 31 0 (as := []) (st' := [.inr (.inr (some b27)), .inr (.inr (some b))]) (k_Clock_init h26) cf_Teller_27 ⟨rfl, by decide +kernel, by decide, by decide, Nat.le_of_ble_eq_true rfl⟩ rfl d_Teller_init_31 ?_
  replace h := gb1_elim h; obtain ⟨mm29, h30, h⟩ := h
  refine x_putF 34 fp_Teller_28 rfl (g_nR _ _) (g_fR _ _) h30 d_Teller_init_34 ?_
  refine x_aloadn 37 0 d_Teller_init_37 rfl rfl ?_
  refine x_iconst 38 d_Teller_init_38 (v := (0 : Int32)) (by decide +kernel) ?_
  replace h := gb1_elim h; obtain ⟨mm31, h32, h⟩ := h
  refine x_putV 39 fp_Teller_32 (g_nZ (by decide)) (g_fZ (by decide)) h32 d_Teller_init_39 ?_
  cases h
  exact x_return 42 rfl d_Teller_init_42
theorem k_Teller_init {b : Nat} {r : Unit} {mm res : gM} (h : F_Teller_init b mm = some (r, res)) : ∀ (l : Launch) (E : gD), gLe mm res ∧ gMet l E Y_Teller_init y_Teller_init [.inr (.inr (some b))] none mm res :=
  fun l E => ⟨(w_Teller_init (l := l) (E := E) (n0 := 0) (s0 := 0) h).1, x_met (by decide +kernel) rfl rfl rfl (Nat.le_of_ble_eq_true rfl) (w_Teller_init h)⟩
theorem d_ArraysSupport_hugeLength_0 : decode b_ArraysSupport_hugeLength 0 = .ok (.iload_n 0, 1) := by decide +kernel
theorem d_ArraysSupport_hugeLength_1 : decode b_ArraysSupport_hugeLength 1 = .ok (.iload_n 1, 1) := by decide +kernel
theorem d_ArraysSupport_hugeLength_2 : decode b_ArraysSupport_hugeLength 2 = .ok (.iadd, 1) := by decide +kernel
theorem d_ArraysSupport_hugeLength_3 : decode b_ArraysSupport_hugeLength 3 = .ok (.istore_n 2, 1) := by decide +kernel
theorem d_ArraysSupport_hugeLength_4 : decode b_ArraysSupport_hugeLength 4 = .ok (.iload_n 2, 1) := by decide +kernel
theorem d_ArraysSupport_hugeLength_5 : decode b_ArraysSupport_hugeLength 5 = .ok (.ifCond .ge 44, 3) := by decide +kernel
theorem d_ArraysSupport_hugeLength_8 : decode b_ArraysSupport_hugeLength 8 = .ok (.new 204, 3) := by decide +kernel
theorem d_ArraysSupport_hugeLength_11 : decode b_ArraysSupport_hugeLength 11 = .ok (.dup, 1) := by decide +kernel
theorem d_ArraysSupport_hugeLength_12 : decode b_ArraysSupport_hugeLength 12 = .ok (.new 89, 3) := by decide +kernel
theorem d_ArraysSupport_hugeLength_15 : decode b_ArraysSupport_hugeLength 15 = .ok (.dup, 1) := by decide +kernel
theorem d_ArraysSupport_hugeLength_16 : decode b_ArraysSupport_hugeLength 16 = .ok (.invokespecial 91, 3) := by decide +kernel
theorem d_ArraysSupport_hugeLength_19 : decode b_ArraysSupport_hugeLength 19 = .ok (.ldc 206, 2) := by decide +kernel
theorem d_ArraysSupport_hugeLength_21 : decode b_ArraysSupport_hugeLength 21 = .ok (.invokevirtual 94, 3) := by decide +kernel
theorem d_ArraysSupport_hugeLength_24 : decode b_ArraysSupport_hugeLength 24 = .ok (.iload_n 0, 1) := by decide +kernel
theorem d_ArraysSupport_hugeLength_25 : decode b_ArraysSupport_hugeLength 25 = .ok (.invokevirtual 98, 3) := by decide +kernel
theorem d_ArraysSupport_hugeLength_28 : decode b_ArraysSupport_hugeLength 28 = .ok (.ldc 208, 2) := by decide +kernel
theorem d_ArraysSupport_hugeLength_30 : decode b_ArraysSupport_hugeLength 30 = .ok (.invokevirtual 94, 3) := by decide +kernel
theorem d_ArraysSupport_hugeLength_33 : decode b_ArraysSupport_hugeLength 33 = .ok (.iload_n 1, 1) := by decide +kernel
theorem d_ArraysSupport_hugeLength_34 : decode b_ArraysSupport_hugeLength 34 = .ok (.invokevirtual 98, 3) := by decide +kernel
theorem d_ArraysSupport_hugeLength_37 : decode b_ArraysSupport_hugeLength 37 = .ok (.ldc 210, 2) := by decide +kernel
theorem d_ArraysSupport_hugeLength_39 : decode b_ArraysSupport_hugeLength 39 = .ok (.invokevirtual 94, 3) := by decide +kernel
theorem d_ArraysSupport_hugeLength_42 : decode b_ArraysSupport_hugeLength 42 = .ok (.invokevirtual 101, 3) := by decide +kernel
theorem d_ArraysSupport_hugeLength_45 : decode b_ArraysSupport_hugeLength 45 = .ok (.invokespecial 212, 3) := by decide +kernel
theorem d_ArraysSupport_hugeLength_48 : decode b_ArraysSupport_hugeLength 48 = .ok (.athrow, 1) := by decide +kernel
theorem d_ArraysSupport_hugeLength_49 : decode b_ArraysSupport_hugeLength 49 = .ok (.iload_n 2, 1) := by decide +kernel
theorem d_ArraysSupport_hugeLength_50 : decode b_ArraysSupport_hugeLength 50 = .ok (.ldc 200, 2) := by decide +kernel
theorem d_ArraysSupport_hugeLength_52 : decode b_ArraysSupport_hugeLength 52 = .ok (.if_icmp .gt 6, 3) := by decide +kernel
theorem d_ArraysSupport_hugeLength_55 : decode b_ArraysSupport_hugeLength 55 = .ok (.ldc 200, 2) := by decide +kernel
theorem d_ArraysSupport_hugeLength_57 : decode b_ArraysSupport_hugeLength 57 = .ok (.ireturn, 1) := by decide +kernel
theorem d_ArraysSupport_hugeLength_58 : decode b_ArraysSupport_hugeLength 58 = .ok (.iload_n 2, 1) := by decide +kernel
theorem d_ArraysSupport_hugeLength_59 : decode b_ArraysSupport_hugeLength 59 = .ok (.ireturn, 1) := by decide +kernel
def F_ArraysSupport_hugeLength (a0 : Int32) (a1 : Int32) (mm : gM) : Option (Int32 × gM) :=
  gLet (a0 + a1) fun x1 =>
  if 0 ≤ x1 then (
    if (2147483639 : Int32) < x1 then (
      some (x1, mm))
    else (
      some ((2147483639 : Int32), mm)))
  else (
    none)
set_option maxHeartbeats 8000000 in
set_option maxRecDepth 100000 in
theorem w_ArraysSupport_hugeLength {l : Launch} {E : gD} {n0 s0 : Nat} {a0 : Int32} {a1 : Int32} {r : Int32} {mm res : gM} (h : F_ArraysSupport_hugeLength a0 a1 mm = some (r, res)) : xX l E Y_ArraysSupport_hugeLength n0 s0 (some (.int r)) res 0 [(0, .inl a0), (1, .inl a1)] [] mm := by
  unfold F_ArraysSupport_hugeLength at h
  refine x_iloadn 0 0 d_ArraysSupport_hugeLength_0 rfl rfl ?_
  refine x_iloadn 1 1 d_ArraysSupport_hugeLength_1 rfl rfl ?_
  refine x_iadd 2 d_ArraysSupport_hugeLength_2 ?_
  replace h := gLet_elim h; obtain ⟨x1, ex1, h⟩ := h
  refine x_topi ex1 ?_
  refine x_istoren 3 (lv' := [(2, .inl x1), (0, .inl a0), (1, .inl a1)]) d_ArraysSupport_hugeLength_3 rfl (by decide) rfl ?_
  refine x_iloadn 4 0 d_ArraysSupport_hugeLength_4 rfl rfl ?_
  refine x_if_ge 5 49 d_ArraysSupport_hugeLength_5 (by decide) (fun c2 => ?_) (fun c2 => ?_)
  · replace h := gif_t h c2
    refine x_iloadn 49 0 d_ArraysSupport_hugeLength_49 rfl rfl ?_
    refine x_ldc 50 d_ArraysSupport_hugeLength_50 (v := (2147483639 : Int32)) (gT_in0 142 rfl) ?_
    refine x_icmp_gt 52 58 d_ArraysSupport_hugeLength_52 (by decide) (fun c3 => ?_) (fun c3 => ?_)
    · replace h := gif_t h c3
      refine x_iloadn 58 0 d_ArraysSupport_hugeLength_58 rfl rfl ?_
      cases h
      exact x_ireturn 59 rfl d_ArraysSupport_hugeLength_59
    · replace h := gif_f h c3
      refine x_ldc 55 d_ArraysSupport_hugeLength_55 (v := (2147483639 : Int32)) (gT_in0 142 rfl) ?_
      cases h
      exact x_ireturn 57 rfl d_ArraysSupport_hugeLength_57
  · replace h := gif_f h c2
    cases h
theorem k_ArraysSupport_hugeLength {a0 : Int32} {a1 : Int32} {r : Int32} {mm res : gM} (h : F_ArraysSupport_hugeLength a0 a1 mm = some (r, res)) : ∀ (l : Launch) (E : gD), gLe mm res ∧ gMet l E Y_ArraysSupport_hugeLength y_ArraysSupport_hugeLength [.inl a0, .inl a1] (some (.int r)) mm res :=
  fun l E => ⟨(w_ArraysSupport_hugeLength (l := l) (E := E) (n0 := 0) (s0 := 0) h).1, x_met (by decide +kernel) rfl rfl rfl (Nat.le_of_ble_eq_true rfl) (w_ArraysSupport_hugeLength h)⟩
theorem d_ArraysSupport_newLength_0 : decode b_ArraysSupport_newLength 0 = .ok (.iload_n 0, 1) := by decide +kernel
theorem d_ArraysSupport_newLength_1 : decode b_ArraysSupport_newLength 1 = .ok (.iload_n 1, 1) := by decide +kernel
theorem d_ArraysSupport_newLength_2 : decode b_ArraysSupport_newLength 2 = .ok (.iload_n 2, 1) := by decide +kernel
theorem d_ArraysSupport_newLength_3 : decode b_ArraysSupport_newLength 3 = .ok (.invokestatic 194, 3) := by decide +kernel
theorem d_ArraysSupport_newLength_6 : decode b_ArraysSupport_newLength 6 = .ok (.iadd, 1) := by decide +kernel
theorem d_ArraysSupport_newLength_7 : decode b_ArraysSupport_newLength 7 = .ok (.istore_n 3, 1) := by decide +kernel
theorem d_ArraysSupport_newLength_8 : decode b_ArraysSupport_newLength 8 = .ok (.iconst 0, 1) := by decide +kernel
theorem d_ArraysSupport_newLength_9 : decode b_ArraysSupport_newLength 9 = .ok (.iload_n 3, 1) := by decide +kernel
theorem d_ArraysSupport_newLength_10 : decode b_ArraysSupport_newLength 10 = .ok (.if_icmp .ge 11, 3) := by decide +kernel
theorem d_ArraysSupport_newLength_13 : decode b_ArraysSupport_newLength 13 = .ok (.iload_n 3, 1) := by decide +kernel
theorem d_ArraysSupport_newLength_14 : decode b_ArraysSupport_newLength 14 = .ok (.ldc 200, 2) := by decide +kernel
theorem d_ArraysSupport_newLength_16 : decode b_ArraysSupport_newLength 16 = .ok (.if_icmp .gt 5, 3) := by decide +kernel
theorem d_ArraysSupport_newLength_19 : decode b_ArraysSupport_newLength 19 = .ok (.iload_n 3, 1) := by decide +kernel
theorem d_ArraysSupport_newLength_20 : decode b_ArraysSupport_newLength 20 = .ok (.ireturn, 1) := by decide +kernel
theorem d_ArraysSupport_newLength_21 : decode b_ArraysSupport_newLength 21 = .ok (.iload_n 0, 1) := by decide +kernel
theorem d_ArraysSupport_newLength_22 : decode b_ArraysSupport_newLength 22 = .ok (.iload_n 1, 1) := by decide +kernel
theorem d_ArraysSupport_newLength_23 : decode b_ArraysSupport_newLength 23 = .ok (.invokestatic 201, 3) := by decide +kernel
theorem d_ArraysSupport_newLength_26 : decode b_ArraysSupport_newLength 26 = .ok (.ireturn, 1) := by decide +kernel
def F_ArraysSupport_newLength (a0 : Int32) (a1 : Int32) (a2 : Int32) (mm : gM) : Option (Int32 × gM) :=
  gLet (if a1 < a2 then a2 else a1) fun x1 =>
  gLet (a0 + x1) fun x2 =>
  if x2 ≤ (0 : Int32) then (
    gb2 (F_ArraysSupport_hugeLength a0 a1 mm) fun v4 mm5 =>
    some (v4, mm5))
  else (
    if (2147483639 : Int32) < x2 then (
      gb2 (F_ArraysSupport_hugeLength a0 a1 mm) fun v8 mm9 =>
      some (v8, mm9))
    else (
      some (x2, mm)))
set_option maxHeartbeats 8000000 in
set_option maxRecDepth 100000 in
theorem w_ArraysSupport_newLength {l : Launch} {E : gD} {n0 s0 : Nat} {a0 : Int32} {a1 : Int32} {a2 : Int32} {r : Int32} {mm res : gM} (h : F_ArraysSupport_newLength a0 a1 a2 mm = some (r, res)) : xX l E Y_ArraysSupport_newLength n0 s0 (some (.int r)) res 0 [(0, .inl a0), (1, .inl a1), (2, .inl a2)] [] mm := by
  unfold F_ArraysSupport_newLength at h
  refine x_iloadn 0 0 d_ArraysSupport_newLength_0 rfl rfl ?_
  refine x_iloadn 1 1 d_ArraysSupport_newLength_1 rfl rfl ?_
  refine x_iloadn 2 2 d_ArraysSupport_newLength_2 rfl rfl ?_
  refine x_mmax 3 (gT_in0 139 rfl) (gT_in0 140 rfl) (gT_in0 11 rfl) (gT_in0 141 rfl) (by decide) (Nat.le_of_ble_eq_true rfl) d_ArraysSupport_newLength_3 ?_
  replace h := gLet_elim h; obtain ⟨x1, ex1, h⟩ := h
  refine x_topi ex1 ?_
  refine x_iadd 6 d_ArraysSupport_newLength_6 ?_
  replace h := gLet_elim h; obtain ⟨x2, ex2, h⟩ := h
  refine x_topi ex2 ?_
  refine x_istoren 7 (lv' := [(3, .inl x2), (0, .inl a0), (1, .inl a1), (2, .inl a2)]) d_ArraysSupport_newLength_7 rfl (by decide) rfl ?_
  refine x_iconst 8 d_ArraysSupport_newLength_8 (v := (0 : Int32)) (by decide +kernel) ?_
  refine x_iloadn 9 0 d_ArraysSupport_newLength_9 rfl rfl ?_
  refine x_icmp_ge 10 21 d_ArraysSupport_newLength_10 (by decide) (fun c3 => ?_) (fun c3 => ?_)
  · replace h := gif_t h c3
    refine x_iloadn 21 1 d_ArraysSupport_newLength_21 rfl rfl ?_
    refine x_iloadn 22 2 d_ArraysSupport_newLength_22 rfl rfl ?_
    replace h := gb2_elim h; obtain ⟨v4, mm5, h6, h⟩ := h
    refine x_callS 23 2 (as := [.inl a0, .inl a1]) (st' := []) (rs := [.inl v4]) (k_ArraysSupport_hugeLength h6) rfl cf_ArraysSupport_201 ⟨rfl, by decide +kernel, by decide, by decide, Nat.le_of_ble_eq_true rfl⟩ rfl d_ArraysSupport_newLength_23 ?_
    cases h
    exact x_ireturn 26 rfl d_ArraysSupport_newLength_26
  · replace h := gif_f h c3
    refine x_iloadn 13 0 d_ArraysSupport_newLength_13 rfl rfl ?_
    refine x_ldc 14 d_ArraysSupport_newLength_14 (v := (2147483639 : Int32)) (gT_in0 142 rfl) ?_
    refine x_icmp_gt 16 21 d_ArraysSupport_newLength_16 (by decide) (fun c7 => ?_) (fun c7 => ?_)
    · replace h := gif_t h c7
      refine x_iloadn 21 1 d_ArraysSupport_newLength_21 rfl rfl ?_
      refine x_iloadn 22 2 d_ArraysSupport_newLength_22 rfl rfl ?_
      replace h := gb2_elim h; obtain ⟨v8, mm9, h10, h⟩ := h
      refine x_callS 23 2 (as := [.inl a0, .inl a1]) (st' := []) (rs := [.inl v8]) (k_ArraysSupport_hugeLength h10) rfl cf_ArraysSupport_201 ⟨rfl, by decide +kernel, by decide, by decide, Nat.le_of_ble_eq_true rfl⟩ rfl d_ArraysSupport_newLength_23 ?_
      cases h
      exact x_ireturn 26 rfl d_ArraysSupport_newLength_26
    · replace h := gif_f h c7
      refine x_iloadn 19 0 d_ArraysSupport_newLength_19 rfl rfl ?_
      cases h
      exact x_ireturn 20 rfl d_ArraysSupport_newLength_20
theorem k_ArraysSupport_newLength {a0 : Int32} {a1 : Int32} {a2 : Int32} {r : Int32} {mm res : gM} (h : F_ArraysSupport_newLength a0 a1 a2 mm = some (r, res)) : ∀ (l : Launch) (E : gD), gLe mm res ∧ gMet l E Y_ArraysSupport_newLength y_ArraysSupport_newLength [.inl a0, .inl a1, .inl a2] (some (.int r)) mm res :=
  fun l E => ⟨(w_ArraysSupport_newLength (l := l) (E := E) (n0 := 0) (s0 := 0) h).1, x_met (by decide +kernel) rfl rfl rfl (Nat.le_of_ble_eq_true rfl) (w_ArraysSupport_newLength h)⟩
theorem d_Arrays_copyOf2_0 : decode b_Arrays_copyOf2 0 = .ok (.aload_n 2, 1) := by decide +kernel
theorem d_Arrays_copyOf2_1 : decode b_Arrays_copyOf2 1 = .ok (.ldc 110, 2) := by decide +kernel
theorem d_Arrays_copyOf2_3 : decode b_Arrays_copyOf2 3 = .ok (.if_acmp .ne 10, 3) := by decide +kernel
theorem d_Arrays_copyOf2_6 : decode b_Arrays_copyOf2 6 = .ok (.iload_n 1, 1) := by decide +kernel
theorem d_Arrays_copyOf2_7 : decode b_Arrays_copyOf2 7 = .ok (.anewarray 2, 3) := by decide +kernel
theorem d_Arrays_copyOf2_10 : decode b_Arrays_copyOf2 10 = .ok (.goto 14, 3) := by decide +kernel
theorem d_Arrays_copyOf2_13 : decode b_Arrays_copyOf2 13 = .ok (.aload_n 2, 1) := by decide +kernel
theorem d_Arrays_copyOf2_14 : decode b_Arrays_copyOf2 14 = .ok (.invokevirtual 90, 3) := by decide +kernel
theorem d_Arrays_copyOf2_17 : decode b_Arrays_copyOf2 17 = .ok (.iload_n 1, 1) := by decide +kernel
theorem d_Arrays_copyOf2_18 : decode b_Arrays_copyOf2 18 = .ok (.invokestatic 95, 3) := by decide +kernel
theorem d_Arrays_copyOf2_21 : decode b_Arrays_copyOf2 21 = .ok (.checkcast 110, 3) := by decide +kernel
theorem d_Arrays_copyOf2_24 : decode b_Arrays_copyOf2 24 = .ok (.astore_n 3, 1) := by decide +kernel
theorem d_Arrays_copyOf2_25 : decode b_Arrays_copyOf2 25 = .ok (.aload_n 0, 1) := by decide +kernel
theorem d_Arrays_copyOf2_26 : decode b_Arrays_copyOf2 26 = .ok (.iconst 0, 1) := by decide +kernel
theorem d_Arrays_copyOf2_27 : decode b_Arrays_copyOf2 27 = .ok (.aload_n 3, 1) := by decide +kernel
theorem d_Arrays_copyOf2_28 : decode b_Arrays_copyOf2 28 = .ok (.iconst 0, 1) := by decide +kernel
theorem d_Arrays_copyOf2_29 : decode b_Arrays_copyOf2 29 = .ok (.aload_n 0, 1) := by decide +kernel
theorem d_Arrays_copyOf2_30 : decode b_Arrays_copyOf2 30 = .ok (.arraylength, 1) := by decide +kernel
theorem d_Arrays_copyOf2_31 : decode b_Arrays_copyOf2 31 = .ok (.iload_n 1, 1) := by decide +kernel
theorem d_Arrays_copyOf2_32 : decode b_Arrays_copyOf2 32 = .ok (.invokestatic 304, 3) := by decide +kernel
theorem d_Arrays_copyOf2_35 : decode b_Arrays_copyOf2 35 = .ok (.invokestatic 150, 3) := by decide +kernel
theorem d_Arrays_copyOf2_38 : decode b_Arrays_copyOf2 38 = .ok (.aload_n 3, 1) := by decide +kernel
theorem d_Arrays_copyOf2_39 : decode b_Arrays_copyOf2 39 = .ok (.areturn, 1) := by decide +kernel
def F_Arrays_copyOf2 (a0 : Option Nat) (a1 : Int32) (a2 : Option Nat) (mm : gM) : Option (Option Nat × gM) :=
  gLet (fun (p0 : Option Nat) (p1 : Int32) (q0 : Option Nat) (mm : gM) =>
    gb1 (glen p0 mm) fun v1 =>
    gLet (if p1 < v1 then p1 else v1) fun x3 =>
    gb1 (gcR 4 gObs p0 (0 : Int32) q0 (0 : Int32) x3 mm) fun mm4 =>
    some (q0, mm4)) fun J24 =>
  if a2 = (some (mm.2.2.2.1 1)) then (
    gb2 (gnR 4 a1 mm) fun v7 mm9 =>
    J24 a0 a1 v7 mm9)
  else (
    none)
set_option maxHeartbeats 8000000 in
set_option maxRecDepth 100000 in
theorem w_Arrays_copyOf2 {l : Launch} {E : gD} {n0 s0 : Nat} {a0 : Option Nat} {a1 : Int32} {a2 : Option Nat} {r : Option Nat} {mm res : gM} (h : F_Arrays_copyOf2 a0 a1 a2 mm = some (r, res)) : xX l E Y_Arrays_copyOf2 n0 s0 (some (va_rf r)) res 0 [(0, .inr (.inr a0)), (1, .inl a1), (2, .inr (.inr a2))] [] mm := by
  unfold F_Arrays_copyOf2 at h
  refine x_aloadn 0 2 d_Arrays_copyOf2_0 rfl rfl ?_
  refine x_ldcM 1 (gT_in1 17 rfl) d_Arrays_copyOf2_1 ?_
  replace h := gLet_elim h; obtain ⟨J24, hJ24, h⟩ := h
  have kJ24 : ∀ (p0 : Option Nat) (p1 : Int32) (q0 : Option Nat) (mm : gM), J24 p0 p1 q0 mm = some (r, res) → xX l E Y_Arrays_copyOf2 n0 s0 (some (va_rf r)) res 24 [(0, .inr (.inr p0)), (1, .inl p1)] [.inr (.inr q0)] mm := by
    intro p0 p1 q0 mm h
    rw [hJ24] at h
    refine x_astoren 24 (lv' := [(3, .inr (.inr q0)), (0, .inr (.inr p0)), (1, .inl p1)]) d_Arrays_copyOf2_24 rfl (by decide) rfl ?_
    refine x_aloadn 25 1 d_Arrays_copyOf2_25 rfl rfl ?_
    refine x_iconst 26 d_Arrays_copyOf2_26 (v := (0 : Int32)) (by decide +kernel) ?_
    refine x_aloadn 27 0 d_Arrays_copyOf2_27 rfl rfl ?_
    refine x_iconst 28 d_Arrays_copyOf2_28 (v := (0 : Int32)) (by decide +kernel) ?_
    refine x_aloadn 29 1 d_Arrays_copyOf2_29 rfl rfl ?_
    replace h := gb1_elim h; obtain ⟨v1, h2, h⟩ := h
    refine x_alen 30 h2 d_Arrays_copyOf2_30 ?_
    refine x_iloadn 31 2 d_Arrays_copyOf2_31 rfl rfl ?_
    refine x_mmin 32 (gT_in1 19 rfl) (gT_in1 20 rfl) (gT_in0 11 rfl) (gT_in1 21 rfl) (by decide) (Nat.le_of_ble_eq_true rfl) d_Arrays_copyOf2_32 ?_
    replace h := gLet_elim h; obtain ⟨x3, ex3, h⟩ := h
    refine x_topi ex3 ?_
    replace h := gb1_elim h; obtain ⟨mm4, h5, h⟩ := h
    refine x_copyR 35 (by decide) rfl gInto_O ac_Arrays_150 h5 (by decide) (by decide +kernel) d_Arrays_copyOf2_35 ?_
    refine x_aloadn 38 0 d_Arrays_copyOf2_38 rfl rfl ?_
    cases h
    exact x_areturn 39 rfl (Or.inr ⟨_, rfl⟩) d_Arrays_copyOf2_39
  refine x_acmp_ne 3 13 d_Arrays_copyOf2_3 (by decide) (fun c6 => ?_) (fun c6 => ?_)
  · replace h := gif_t h c6
    refine x_iloadn 6 1 d_Arrays_copyOf2_6 rfl rfl ?_
    replace h := gb2_elim h; obtain ⟨v7, mm9, h8, h⟩ := h
    refine x_newR 7 (C := "java/lang/Object") (by decide) rfl (gT_in1 18 rfl) (by decide +kernel) h8 d_Arrays_copyOf2_7 ?_
    refine x_goto 10 24 d_Arrays_copyOf2_10 (by decide) ?_
    refine x_sub [0, 1] rfl ?_
    exact kJ24 _ _ _ _ h
  · replace h := gif_f h c6
    refine x_aloadn 13 2 d_Arrays_copyOf2_13 rfl rfl ?_
    cases h
theorem k_Arrays_copyOf2 {a0 : Option Nat} {a1 : Int32} {a2 : Option Nat} {r : Option Nat} {mm res : gM} (h : F_Arrays_copyOf2 a0 a1 a2 mm = some (r, res)) : ∀ (l : Launch) (E : gD), gLe mm res ∧ gMet l E Y_Arrays_copyOf2 y_Arrays_copyOf2 [.inr (.inr a0), .inl a1, .inr (.inr a2)] (some (va_rf r)) mm res :=
  fun l E => ⟨(w_Arrays_copyOf2 (l := l) (E := E) (n0 := 0) (s0 := 0) h).1, x_met (by decide +kernel) rfl rfl rfl (Nat.le_of_ble_eq_true rfl) (w_Arrays_copyOf2 h)⟩
theorem d_Arrays_copyOf_0 : decode b_Arrays_copyOf 0 = .ok (.aload_n 0, 1) := by decide +kernel
theorem d_Arrays_copyOf_1 : decode b_Arrays_copyOf 1 = .ok (.iload_n 1, 1) := by decide +kernel
theorem d_Arrays_copyOf_2 : decode b_Arrays_copyOf 2 = .ok (.aload_n 0, 1) := by decide +kernel
theorem d_Arrays_copyOf_3 : decode b_Arrays_copyOf 3 = .ok (.invokevirtual 86, 3) := by decide +kernel
theorem d_Arrays_copyOf_6 : decode b_Arrays_copyOf 6 = .ok (.invokestatic 300, 3) := by decide +kernel
theorem d_Arrays_copyOf_9 : decode b_Arrays_copyOf 9 = .ok (.areturn, 1) := by decide +kernel
def F_Arrays_copyOf (a0 : Option Nat) (a1 : Int32) (mm : gM) : Option (Option Nat × gM) :=
  gb1 (gmi 4 a0 mm) fun v1 =>
  gb2 (F_Arrays_copyOf2 a0 a1 v1 mm) fun v3 mm4 =>
  some (v3, mm4)
set_option maxHeartbeats 8000000 in
set_option maxRecDepth 100000 in
theorem w_Arrays_copyOf {l : Launch} {E : gD} {n0 s0 : Nat} {a0 : Option Nat} {a1 : Int32} {r : Option Nat} {mm res : gM} (h : F_Arrays_copyOf a0 a1 mm = some (r, res)) : xX l E Y_Arrays_copyOf n0 s0 (some (va_rf r)) res 0 [(0, .inr (.inr a0)), (1, .inl a1)] [] mm := by
  unfold F_Arrays_copyOf at h
  refine x_aloadn 0 0 d_Arrays_copyOf_0 rfl rfl ?_
  refine x_iloadn 1 1 d_Arrays_copyOf_1 rfl rfl ?_
  refine x_aloadn 2 0 d_Arrays_copyOf_2 rfl rfl ?_
  replace h := gb1_elim h; obtain ⟨v1, h2, h⟩ := h
  refine x_getC 3 h2 (gT_in0 149 rfl) (gT_in4 81 rfl) (gT_in1 0 rfl) (gT_in1 13 rfl) (by decide) (Nat.le_of_ble_eq_true rfl) d_Arrays_copyOf_3 ?_
  replace h := gb2_elim h; obtain ⟨v3, mm4, h5, h⟩ := h
  refine x_callS 6 3 (as := [.inr (.inr a0), .inl a1, .inr (.inr v1)]) (st' := []) (rs := [.inr (.inr v3)]) (k_Arrays_copyOf2 h5) rfl cf_Arrays_300 ⟨rfl, by decide +kernel, by decide, by decide, Nat.le_of_ble_eq_true rfl⟩ rfl d_Arrays_copyOf_6 ?_
  cases h
  exact x_areturn 9 rfl (Or.inr ⟨_, rfl⟩) d_Arrays_copyOf_9
theorem k_Arrays_copyOf {a0 : Option Nat} {a1 : Int32} {r : Option Nat} {mm res : gM} (h : F_Arrays_copyOf a0 a1 mm = some (r, res)) : ∀ (l : Launch) (E : gD), gLe mm res ∧ gMet l E Y_Arrays_copyOf y_Arrays_copyOf [.inr (.inr a0), .inl a1] (some (va_rf r)) mm res :=
  fun l E => ⟨(w_Arrays_copyOf (l := l) (E := E) (n0 := 0) (s0 := 0) h).1, x_met (by decide +kernel) rfl rfl rfl (Nat.le_of_ble_eq_true rfl) (w_Arrays_copyOf h)⟩
theorem d_AL_grow2_0 : decode b_AL_grow2 0 = .ok (.aload_n 0, 1) := by decide +kernel
theorem d_AL_grow2_1 : decode b_AL_grow2 1 = .ok (.getfield 9, 3) := by decide +kernel
theorem d_AL_grow2_4 : decode b_AL_grow2 4 = .ok (.arraylength, 1) := by decide +kernel
theorem d_AL_grow2_5 : decode b_AL_grow2 5 = .ok (.istore_n 2, 1) := by decide +kernel
theorem d_AL_grow2_6 : decode b_AL_grow2 6 = .ok (.iload_n 2, 1) := by decide +kernel
theorem d_AL_grow2_7 : decode b_AL_grow2 7 = .ok (.ifCond .gt 13, 3) := by decide +kernel
theorem d_AL_grow2_10 : decode b_AL_grow2 10 = .ok (.aload_n 0, 1) := by decide +kernel
theorem d_AL_grow2_11 : decode b_AL_grow2 11 = .ok (.getfield 9, 3) := by decide +kernel
theorem d_AL_grow2_14 : decode b_AL_grow2 14 = .ok (.getstatic 39, 3) := by decide +kernel
theorem d_AL_grow2_17 : decode b_AL_grow2 17 = .ok (.if_acmp .eq 28, 3) := by decide +kernel
theorem d_AL_grow2_20 : decode b_AL_grow2 20 = .ok (.iload_n 2, 1) := by decide +kernel
theorem d_AL_grow2_21 : decode b_AL_grow2 21 = .ok (.iload_n 1, 1) := by decide +kernel
theorem d_AL_grow2_22 : decode b_AL_grow2 22 = .ok (.iload_n 2, 1) := by decide +kernel
theorem d_AL_grow2_23 : decode b_AL_grow2 23 = .ok (.isub, 1) := by decide +kernel
theorem d_AL_grow2_24 : decode b_AL_grow2 24 = .ok (.iload_n 2, 1) := by decide +kernel
theorem d_AL_grow2_25 : decode b_AL_grow2 25 = .ok (.iconst 1, 1) := by decide +kernel
theorem d_AL_grow2_26 : decode b_AL_grow2 26 = .ok (.ishr, 1) := by decide +kernel
theorem d_AL_grow2_27 : decode b_AL_grow2 27 = .ok (.invokestatic 73, 3) := by decide +kernel
theorem d_AL_grow2_30 : decode b_AL_grow2 30 = .ok (.istore_n 3, 1) := by decide +kernel
theorem d_AL_grow2_31 : decode b_AL_grow2 31 = .ok (.aload_n 0, 1) := by decide +kernel
theorem d_AL_grow2_32 : decode b_AL_grow2 32 = .ok (.aload_n 0, 1) := by decide +kernel
theorem d_AL_grow2_33 : decode b_AL_grow2 33 = .ok (.getfield 9, 3) := by decide +kernel
theorem d_AL_grow2_36 : decode b_AL_grow2 36 = .ok (.iload_n 3, 1) := by decide +kernel
theorem d_AL_grow2_37 : decode b_AL_grow2 37 = .ok (.invokestatic 66, 3) := by decide +kernel
theorem d_AL_grow2_40 : decode b_AL_grow2 40 = .ok (.dup_x1, 1) := by decide +kernel
theorem d_AL_grow2_41 : decode b_AL_grow2 41 = .ok (.putfield 9, 3) := by decide +kernel
theorem d_AL_grow2_44 : decode b_AL_grow2 44 = .ok (.areturn, 1) := by decide +kernel
theorem d_AL_grow2_45 : decode b_AL_grow2 45 = .ok (.aload_n 0, 1) := by decide +kernel
theorem d_AL_grow2_46 : decode b_AL_grow2 46 = .ok (.bipush 10, 2) := by decide +kernel
theorem d_AL_grow2_48 : decode b_AL_grow2 48 = .ok (.iload_n 1, 1) := by decide +kernel
theorem d_AL_grow2_49 : decode b_AL_grow2 49 = .ok (.invokestatic 79, 3) := by decide +kernel
theorem d_AL_grow2_52 : decode b_AL_grow2 52 = .ok (.anewarray 7, 3) := by decide +kernel
theorem d_AL_grow2_55 : decode b_AL_grow2 55 = .ok (.dup_x1, 1) := by decide +kernel
theorem d_AL_grow2_56 : decode b_AL_grow2 56 = .ok (.putfield 9, 3) := by decide +kernel
theorem d_AL_grow2_59 : decode b_AL_grow2 59 = .ok (.areturn, 1) := by decide +kernel
def F_AL_grow2 (b : Nat) (a0 : Int32) (mm : gM) : Option (Option Nat × gM) :=
  gb1 (gfR 9 0 (some b) mm) fun v1 =>
  gb1 (glen v1 mm) fun v3 =>
  gLet (fun (p0 : Option Nat) (p1 : Int32) (p2 : Int32) (mm : gM) =>
    gb2 (F_ArraysSupport_newLength p2 (p1 - p2) (p2 >>> ((1 : Int32) &&& 31)) mm) fun v5 mm6 =>
    gb1 (gfR 9 0 p0 mm6) fun v8 =>
    gb2 (F_Arrays_copyOf v8 v5 mm6) fun v10 mm11 =>
    gb1 (gpV 9 0 p0 (va_rf v10) mm11) fun mm13 =>
    some (v10, mm13)) fun J20 =>
  if 0 < v3 then (
    J20 (some b) a0 v3 mm)
  else (
    gb1 (gfR 9 0 (some b) mm) fun v16 =>
    if v16 = (some (mm.2.2.2.1 0)) then (
      gLet (if (10 : Int32) < a0 then a0 else (10 : Int32)) fun x19 =>
      gb2 (gnR 4 x19 mm) fun v20 mm22 =>
      gb1 (gpV 9 0 (some b) (va_rf v20) mm22) fun mm23 =>
      some (v20, mm23))
    else (
      J20 (some b) a0 v3 mm))
set_option maxHeartbeats 8000000 in
set_option maxRecDepth 100000 in
theorem w_AL_grow2 {l : Launch} {E : gD} {n0 s0 : Nat} {b : Nat} {a0 : Int32} {r : Option Nat} {mm res : gM} (h : F_AL_grow2 b a0 mm = some (r, res)) : xX l E Y_AL_grow2 n0 s0 (some (va_rf r)) res 0 [(0, .inr (.inr (some b))), (1, .inl a0)] [] mm := by
  unfold F_AL_grow2 at h
  refine x_aloadn 0 0 d_AL_grow2_0 rfl rfl ?_
  replace h := gb1_elim h; obtain ⟨v1, h2, h⟩ := h
  refine x_getR 1 h2 fl_AL_9 d_AL_grow2_1 ?_
  replace h := gb1_elim h; obtain ⟨v3, h4, h⟩ := h
  refine x_alen 4 h4 d_AL_grow2_4 ?_
  refine x_istoren 5 (lv' := [(2, .inl v3), (0, .inr (.inr (some b))), (1, .inl a0)]) d_AL_grow2_5 rfl (by decide) rfl ?_
  refine x_iloadn 6 0 d_AL_grow2_6 rfl rfl ?_
  replace h := gLet_elim h; obtain ⟨J20, hJ20, h⟩ := h
  have kJ20 : ∀ (p0 : Option Nat) (p1 : Int32) (p2 : Int32) (mm : gM), J20 p0 p1 p2 mm = some (r, res) → xX l E Y_AL_grow2 n0 s0 (some (va_rf r)) res 20 [(0, .inr (.inr p0)), (1, .inl p1), (2, .inl p2)] [] mm := by
    intro p0 p1 p2 mm h
    rw [hJ20] at h
    refine x_iloadn 20 2 d_AL_grow2_20 rfl rfl ?_
    refine x_iloadn 21 1 d_AL_grow2_21 rfl rfl ?_
    refine x_iloadn 22 2 d_AL_grow2_22 rfl rfl ?_
    refine x_isub 23 d_AL_grow2_23 ?_
    refine x_iloadn 24 2 d_AL_grow2_24 rfl rfl ?_
    refine x_iconst 25 d_AL_grow2_25 (v := (1 : Int32)) (by decide +kernel) ?_
    refine x_ishr 26 d_AL_grow2_26 ?_
    replace h := gb2_elim h; obtain ⟨v5, mm6, h7, h⟩ := h
    refine x_callS 27 3 (as := [.inl p2, .inl (p1 - p2), .inl (p2 >>> ((1 : Int32) &&& 31))]) (st' := []) (rs := [.inl v5]) (k_ArraysSupport_newLength h7) rfl cf_AL_73 ⟨rfl, by decide +kernel, by decide, by decide, Nat.le_of_ble_eq_true rfl⟩ rfl d_AL_grow2_27 ?_
    refine x_istoren 30 (lv' := [(3, .inl v5), (0, .inr (.inr p0)), (1, .inl p1), (2, .inl p2)]) d_AL_grow2_30 rfl (by decide) rfl ?_
    refine x_aloadn 31 1 d_AL_grow2_31 rfl rfl ?_
    refine x_aloadn 32 1 d_AL_grow2_32 rfl rfl ?_
    replace h := gb1_elim h; obtain ⟨v8, h9, h⟩ := h
    refine x_getR 33 h9 fl_AL_9 d_AL_grow2_33 ?_
    refine x_iloadn 36 0 d_AL_grow2_36 rfl rfl ?_
    replace h := gb2_elim h; obtain ⟨v10, mm11, h12, h⟩ := h
    refine x_callS 37 2 (as := [.inr (.inr v8), .inl v5]) (st' := [.inr (.inr p0)]) (rs := [.inr (.inr v10)]) (k_Arrays_copyOf h12) rfl cf_AL_66 ⟨rfl, by decide +kernel, by decide, by decide, Nat.le_of_ble_eq_true rfl⟩ rfl d_AL_grow2_37 ?_
    refine x_dup_x1 40 d_AL_grow2_40 rfl rfl ?_
    replace h := gb1_elim h; obtain ⟨mm13, h14, h⟩ := h
    refine x_putV 41 fp_AL_9 (g_nA _ _) (g_fA _ _) h14 d_AL_grow2_41 ?_
    cases h
    exact x_areturn 44 rfl (Or.inr ⟨_, rfl⟩) d_AL_grow2_44
  refine x_if_gt 7 20 d_AL_grow2_7 (by decide) (fun c15 => ?_) (fun c15 => ?_)
  · replace h := gif_t h c15
    refine x_sub [1, 2, 0] rfl ?_
    exact kJ20 _ _ _ _ h
  · replace h := gif_f h c15
    refine x_aloadn 10 1 d_AL_grow2_10 rfl rfl ?_
    replace h := gb1_elim h; obtain ⟨v16, h17, h⟩ := h
    refine x_getR 11 h17 fl_AL_9 d_AL_grow2_11 ?_
    refine x_getS 14 (gT_in0 40 rfl) d_AL_grow2_14 ?_
    refine x_acmp_eq 17 45 d_AL_grow2_17 (by decide) (fun c18 => ?_) (fun c18 => ?_)
    · replace h := gif_t h c18
      refine x_aloadn 45 1 d_AL_grow2_45 rfl rfl ?_
      refine x_bipush 46 d_AL_grow2_46 (v := (10 : Int32)) (by decide +kernel) ?_
      refine x_iloadn 48 2 d_AL_grow2_48 rfl rfl ?_
      refine x_mmax 49 (gT_in1 25 rfl) (gT_in0 140 rfl) (gT_in0 11 rfl) (gT_in0 141 rfl) (by decide) (Nat.le_of_ble_eq_true rfl) d_AL_grow2_49 ?_
      replace h := gLet_elim h; obtain ⟨x19, ex19, h⟩ := h
      refine x_topi ex19 ?_
      replace h := gb2_elim h; obtain ⟨v20, mm22, h21, h⟩ := h
      refine x_newR 52 (C := "java/lang/Object") (by decide) rfl (gT_in1 26 rfl) (by decide +kernel) h21 d_AL_grow2_52 ?_
      refine x_dup_x1 55 d_AL_grow2_55 rfl rfl ?_
      replace h := gb1_elim h; obtain ⟨mm23, h24, h⟩ := h
      refine x_putV 56 fp_AL_9 (g_nA _ _) (g_fA _ _) h24 d_AL_grow2_56 ?_
      cases h
      exact x_areturn 59 rfl (Or.inr ⟨_, rfl⟩) d_AL_grow2_59
    · replace h := gif_f h c18
      refine x_sub [1, 2, 0] rfl ?_
      exact kJ20 _ _ _ _ h
theorem k_AL_grow2 {b : Nat} {a0 : Int32} {r : Option Nat} {mm res : gM} (h : F_AL_grow2 b a0 mm = some (r, res)) : ∀ (l : Launch) (E : gD), gLe mm res ∧ gMet l E Y_AL_grow2 y_AL_grow2 [.inr (.inr (some b)), .inl a0] (some (va_rf r)) mm res :=
  fun l E => ⟨(w_AL_grow2 (l := l) (E := E) (n0 := 0) (s0 := 0) h).1, x_met (by decide +kernel) rfl rfl rfl (Nat.le_of_ble_eq_true rfl) (w_AL_grow2 h)⟩
theorem d_AL_grow_0 : decode b_AL_grow 0 = .ok (.aload_n 0, 1) := by decide +kernel
theorem d_AL_grow_1 : decode b_AL_grow 1 = .ok (.aload_n 0, 1) := by decide +kernel
theorem d_AL_grow_2 : decode b_AL_grow 2 = .ok (.getfield 48, 3) := by decide +kernel
theorem d_AL_grow_5 : decode b_AL_grow 5 = .ok (.iconst 1, 1) := by decide +kernel
theorem d_AL_grow_6 : decode b_AL_grow 6 = .ok (.iadd, 1) := by decide +kernel
theorem d_AL_grow_7 : decode b_AL_grow 7 = .ok (.invokevirtual 69, 3) := by decide +kernel
theorem d_AL_grow_10 : decode b_AL_grow 10 = .ok (.areturn, 1) := by decide +kernel
def F_AL_grow (b : Nat) (mm : gM) : Option (Option Nat × gM) :=
  gb1 (gfI 9 1 (some b) mm) fun v1 =>
  gb1 (grc 9 (some b) mm) fun b6 =>
  gb2 (F_AL_grow2 b6 (v1 + (1 : Int32)) mm) fun v3 mm4 =>
  some (v3, mm4)
set_option maxHeartbeats 8000000 in
set_option maxRecDepth 100000 in
theorem w_AL_grow {l : Launch} {E : gD} {n0 s0 : Nat} {b : Nat} {r : Option Nat} {mm res : gM} (h : F_AL_grow b mm = some (r, res)) : xX l E Y_AL_grow n0 s0 (some (va_rf r)) res 0 [(0, .inr (.inr (some b)))] [] mm := by
  unfold F_AL_grow at h
  refine x_aloadn 0 0 d_AL_grow_0 rfl rfl ?_
  refine x_aloadn 1 0 d_AL_grow_1 rfl rfl ?_
  replace h := gb1_elim h; obtain ⟨v1, h2, h⟩ := h
  refine x_getI 2 h2 fl_AL_48 d_AL_grow_2 ?_
  refine x_iconst 5 d_AL_grow_5 (v := (1 : Int32)) (by decide +kernel) ?_
  refine x_iadd 6 d_AL_grow_6 ?_
  replace h := gb1_elim h; obtain ⟨b6, h7, h⟩ := h
  replace h := gb2_elim h; obtain ⟨v3, mm4, h5, h⟩ := h
  refine x_callV 7 1 (as := [.inl (v1 + (1 : Int32))]) (st' := []) (rs := [.inr (.inr v3)]) (k_AL_grow2 h5) rfl cf_AL_69 ⟨rfl, by decide +kernel, by decide, by decide, Nat.le_of_ble_eq_true rfl⟩ h7 rfl d_AL_grow_7 ?_
  cases h
  exact x_areturn 10 rfl (Or.inr ⟨_, rfl⟩) d_AL_grow_10
theorem k_AL_grow {b : Nat} {r : Option Nat} {mm res : gM} (h : F_AL_grow b mm = some (r, res)) : ∀ (l : Launch) (E : gD), gLe mm res ∧ gMet l E Y_AL_grow y_AL_grow [.inr (.inr (some b))] (some (va_rf r)) mm res :=
  fun l E => ⟨(w_AL_grow (l := l) (E := E) (n0 := 0) (s0 := 0) h).1, x_met (by decide +kernel) rfl rfl rfl (Nat.le_of_ble_eq_true rfl) (w_AL_grow h)⟩
theorem d_AL_add2_0 : decode b_AL_add2 0 = .ok (.iload_n 3, 1) := by decide +kernel
theorem d_AL_add2_1 : decode b_AL_add2 1 = .ok (.aload_n 2, 1) := by decide +kernel
theorem d_AL_add2_2 : decode b_AL_add2 2 = .ok (.arraylength, 1) := by decide +kernel
theorem d_AL_add2_3 : decode b_AL_add2 3 = .ok (.if_icmp .ne 8, 3) := by decide +kernel
theorem d_AL_add2_6 : decode b_AL_add2 6 = .ok (.aload_n 0, 1) := by decide +kernel
theorem d_AL_add2_7 : decode b_AL_add2 7 = .ok (.invokevirtual 129, 3) := by decide +kernel
theorem d_AL_add2_10 : decode b_AL_add2 10 = .ok (.astore_n 2, 1) := by decide +kernel
theorem d_AL_add2_11 : decode b_AL_add2 11 = .ok (.aload_n 2, 1) := by decide +kernel
theorem d_AL_add2_12 : decode b_AL_add2 12 = .ok (.iload_n 3, 1) := by decide +kernel
theorem d_AL_add2_13 : decode b_AL_add2 13 = .ok (.aload_n 1, 1) := by decide +kernel
theorem d_AL_add2_14 : decode b_AL_add2 14 = .ok (.aastore, 1) := by decide +kernel
theorem d_AL_add2_15 : decode b_AL_add2 15 = .ok (.aload_n 0, 1) := by decide +kernel
theorem d_AL_add2_16 : decode b_AL_add2 16 = .ok (.iload_n 3, 1) := by decide +kernel
theorem d_AL_add2_17 : decode b_AL_add2 17 = .ok (.iconst 1, 1) := by decide +kernel
theorem d_AL_add2_18 : decode b_AL_add2 18 = .ok (.iadd, 1) := by decide +kernel
theorem d_AL_add2_19 : decode b_AL_add2 19 = .ok (.putfield 48, 3) := by decide +kernel
theorem d_AL_add2_22 : decode b_AL_add2 22 = .ok (.return_, 1) := by decide +kernel
def F_AL_add2 (b : Nat) (a0 : Option Nat) (a1 : Option Nat) (a2 : Int32) (mm : gM) : Option (Unit × gM) :=
  gb1 (glen a1 mm) fun v1 =>
  gLet (fun (p0 : Option Nat) (p1 : Option Nat) (p2 : Option Nat) (p3 : Int32) (mm : gM) =>
    gb1 (gsR 4 gObs p2 p3 p1 mm) fun mm3 =>
    gb1 (gpV 9 1 p0 (.int (p3 + (1 : Int32))) mm3) fun mm5 =>
    some ((), mm5)) fun J11 =>
  if a2 = v1 then (
    gb1 (grc 9 (some b) mm) fun b11 =>
    gb2 (F_AL_grow b11  mm) fun v8 mm9 =>
    J11 (some b) a0 v8 a2 mm9)
  else (
    J11 (some b) a0 a1 a2 mm)
set_option maxHeartbeats 8000000 in
set_option maxRecDepth 100000 in
theorem w_AL_add2 {l : Launch} {E : gD} {n0 s0 : Nat} {b : Nat} {a0 : Option Nat} {a1 : Option Nat} {a2 : Int32} {r : Unit} {mm res : gM} (h : F_AL_add2 b a0 a1 a2 mm = some (r, res)) : xX l E Y_AL_add2 n0 s0 none res 0 [(0, .inr (.inr (some b))), (1, .inr (.inr a0)), (2, .inr (.inr a1)), (3, .inl a2)] [] mm := by
  unfold F_AL_add2 at h
  refine x_iloadn 0 3 d_AL_add2_0 rfl rfl ?_
  refine x_aloadn 1 2 d_AL_add2_1 rfl rfl ?_
  replace h := gb1_elim h; obtain ⟨v1, h2, h⟩ := h
  refine x_alen 2 h2 d_AL_add2_2 ?_
  replace h := gLet_elim h; obtain ⟨J11, hJ11, h⟩ := h
  have kJ11 : ∀ (p0 : Option Nat) (p1 : Option Nat) (p2 : Option Nat) (p3 : Int32) (mm : gM), J11 p0 p1 p2 p3 mm = some (r, res) → xX l E Y_AL_add2 n0 s0 none res 11 [(0, .inr (.inr p0)), (1, .inr (.inr p1)), (2, .inr (.inr p2)), (3, .inl p3)] [] mm := by
    intro p0 p1 p2 p3 mm h
    rw [hJ11] at h
    refine x_aloadn 11 2 d_AL_add2_11 rfl rfl ?_
    refine x_iloadn 12 3 d_AL_add2_12 rfl rfl ?_
    refine x_aloadn 13 1 d_AL_add2_13 rfl rfl ?_
    replace h := gb1_elim h; obtain ⟨mm3, h4, h⟩ := h
    refine x_aast 14 (by decide) rfl gInto_O h4 d_AL_add2_14 ?_
    refine x_aloadn 15 0 d_AL_add2_15 rfl rfl ?_
    refine x_iloadn 16 3 d_AL_add2_16 rfl rfl ?_
    refine x_iconst 17 d_AL_add2_17 (v := (1 : Int32)) (by decide +kernel) ?_
    refine x_iadd 18 d_AL_add2_18 ?_
    replace h := gb1_elim h; obtain ⟨mm5, h6, h⟩ := h
    refine x_putV 19 fp_AL_48 rfl rfl h6 d_AL_add2_19 ?_
    cases h
    exact x_return 22 rfl d_AL_add2_22
  refine x_icmp_ne 3 11 d_AL_add2_3 (by decide) (fun c7 => ?_) (fun c7 => ?_)
  · replace h := gif_t h c7
    refine x_aloadn 6 0 d_AL_add2_6 rfl rfl ?_
    replace h := gb1_elim h; obtain ⟨b11, h12, h⟩ := h
    replace h := gb2_elim h; obtain ⟨v8, mm9, h10, h⟩ := h
    refine x_callV 7 0 (as := []) (st' := []) (rs := [.inr (.inr v8)]) (k_AL_grow h10) rfl cf_AL_129 ⟨rfl, by decide +kernel, by decide, by decide, Nat.le_of_ble_eq_true rfl⟩ h12 rfl d_AL_add2_7 ?_
    refine x_astoren 10 (lv' := [(2, .inr (.inr v8)), (0, .inr (.inr (some b))), (1, .inr (.inr a0)), (3, .inl a2)]) d_AL_add2_10 rfl (by decide) rfl ?_
    refine x_sub [1, 2, 0, 3] rfl ?_
    exact kJ11 _ _ _ _ _ h
  · replace h := gif_f h c7
    exact kJ11 _ _ _ _ _ h
theorem k_AL_add2 {b : Nat} {a0 : Option Nat} {a1 : Option Nat} {a2 : Int32} {r : Unit} {mm res : gM} (h : F_AL_add2 b a0 a1 a2 mm = some (r, res)) : ∀ (l : Launch) (E : gD), gLe mm res ∧ gMet l E Y_AL_add2 y_AL_add2 [.inr (.inr (some b)), .inr (.inr a0), .inr (.inr a1), .inl a2] none mm res :=
  fun l E => ⟨(w_AL_add2 (l := l) (E := E) (n0 := 0) (s0 := 0) h).1, x_met (by decide +kernel) rfl rfl rfl (Nat.le_of_ble_eq_true rfl) (w_AL_add2 h)⟩
theorem d_AL_add_0 : decode b_AL_add 0 = .ok (.aload_n 0, 1) := by decide +kernel
theorem d_AL_add_1 : decode b_AL_add 1 = .ok (.dup, 1) := by decide +kernel
theorem d_AL_add_2 : decode b_AL_add 2 = .ok (.getfield 63, 3) := by decide +kernel
theorem d_AL_add_5 : decode b_AL_add 5 = .ok (.iconst 1, 1) := by decide +kernel
theorem d_AL_add_6 : decode b_AL_add 6 = .ok (.iadd, 1) := by decide +kernel
theorem d_AL_add_7 : decode b_AL_add 7 = .ok (.putfield 63, 3) := by decide +kernel
theorem d_AL_add_10 : decode b_AL_add 10 = .ok (.aload_n 0, 1) := by decide +kernel
theorem d_AL_add_11 : decode b_AL_add 11 = .ok (.aload_n 1, 1) := by decide +kernel
theorem d_AL_add_12 : decode b_AL_add 12 = .ok (.aload_n 0, 1) := by decide +kernel
theorem d_AL_add_13 : decode b_AL_add 13 = .ok (.getfield 9, 3) := by decide +kernel
theorem d_AL_add_16 : decode b_AL_add 16 = .ok (.aload_n 0, 1) := by decide +kernel
theorem d_AL_add_17 : decode b_AL_add 17 = .ok (.getfield 48, 3) := by decide +kernel
theorem d_AL_add_20 : decode b_AL_add 20 = .ok (.invokevirtual 131, 3) := by decide +kernel
theorem d_AL_add_23 : decode b_AL_add 23 = .ok (.iconst 1, 1) := by decide +kernel
theorem d_AL_add_24 : decode b_AL_add 24 = .ok (.ireturn, 1) := by decide +kernel
def F_AL_add (b : Nat) (a0 : Option Nat) (mm : gM) : Option (Int32 × gM) :=
  gb1 (gfI 9 2 (some b) mm) fun v1 =>
  gb1 (gpV 9 2 (some b) (.int (v1 + (1 : Int32))) mm) fun mm3 =>
  gb1 (gfR 9 0 (some b) mm3) fun v5 =>
  gb1 (gfI 9 1 (some b) mm3) fun v7 =>
  gb1 (grc 9 (some b) mm3) fun b12 =>
  gb2 (F_AL_add2 b12 a0 v5 v7 mm3) fun v9 mm10 =>
  some ((1 : Int32), mm10)
set_option maxHeartbeats 8000000 in
set_option maxRecDepth 100000 in
theorem w_AL_add {l : Launch} {E : gD} {n0 s0 : Nat} {b : Nat} {a0 : Option Nat} {r : Int32} {mm res : gM} (h : F_AL_add b a0 mm = some (r, res)) : xX l E Y_AL_add n0 s0 (some (.int r)) res 0 [(0, .inr (.inr (some b))), (1, .inr (.inr a0))] [] mm := by
  unfold F_AL_add at h
  refine x_aloadn 0 0 d_AL_add_0 rfl rfl ?_
  refine x_dup 1 d_AL_add_1 rfl ?_
  replace h := gb1_elim h; obtain ⟨v1, h2, h⟩ := h
  refine x_getI 2 h2 fl_AL_63 d_AL_add_2 ?_
  refine x_iconst 5 d_AL_add_5 (v := (1 : Int32)) (by decide +kernel) ?_
  refine x_iadd 6 d_AL_add_6 ?_
  replace h := gb1_elim h; obtain ⟨mm3, h4, h⟩ := h
  refine x_putV 7 fp_AL_63 rfl rfl h4 d_AL_add_7 ?_
  refine x_aloadn 10 0 d_AL_add_10 rfl rfl ?_
  refine x_aloadn 11 1 d_AL_add_11 rfl rfl ?_
  refine x_aloadn 12 0 d_AL_add_12 rfl rfl ?_
  replace h := gb1_elim h; obtain ⟨v5, h6, h⟩ := h
  refine x_getR 13 h6 fl_AL_9 d_AL_add_13 ?_
  refine x_aloadn 16 0 d_AL_add_16 rfl rfl ?_
  replace h := gb1_elim h; obtain ⟨v7, h8, h⟩ := h
  refine x_getI 17 h8 fl_AL_48 d_AL_add_17 ?_
  replace h := gb1_elim h; obtain ⟨b12, h13, h⟩ := h
  replace h := gb2_elim h; obtain ⟨v9, mm10, h11, h⟩ := h
  refine x_callV 20 3 (as := [.inr (.inr a0), .inr (.inr v5), .inl v7]) (st' := []) (rs := []) (k_AL_add2 h11) rfl cf_AL_131 ⟨rfl, by decide +kernel, by decide, by decide, Nat.le_of_ble_eq_true rfl⟩ h13 rfl d_AL_add_20 ?_
  refine x_iconst 23 d_AL_add_23 (v := (1 : Int32)) (by decide +kernel) ?_
  cases h
  exact x_zreturn 24 (by decide) rfl d_AL_add_24
theorem k_AL_add {b : Nat} {a0 : Option Nat} {r : Int32} {mm res : gM} (h : F_AL_add b a0 mm = some (r, res)) : ∀ (l : Launch) (E : gD), gLe mm res ∧ gMet l E Y_AL_add y_AL_add [.inr (.inr (some b)), .inr (.inr a0)] (some (.int r)) mm res :=
  fun l E => ⟨(w_AL_add (l := l) (E := E) (n0 := 0) (s0 := 0) h).1, x_met (by decide +kernel) rfl rfl rfl (Nat.le_of_ble_eq_true rfl) (w_AL_add h)⟩
theorem d_S_teller_0 : decode b_S_teller 0 = .ok (.aload_n 0, 1) := by decide +kernel
theorem d_S_teller_1 : decode b_S_teller 1 = .ok (.getfield 14, 3) := by decide +kernel
theorem d_S_teller_4 : decode b_S_teller 4 = .ok (.invokevirtual 45, 3) := by decide +kernel
theorem d_S_teller_7 : decode b_S_teller 7 = .ok (.bipush 8, 2) := by decide +kernel
theorem d_S_teller_9 : decode b_S_teller 9 = .ok (.if_icmp .lt 5, 3) := by decide +kernel
theorem d_S_teller_12 : decode b_S_teller 12 = .ok (.iconst (-1), 1) := by decide +kernel
theorem d_S_teller_13 : decode b_S_teller 13 = .ok (.ireturn, 1) := by decide +kernel
theorem d_S_teller_14 : decode b_S_teller 14 = .ok (.aload_n 0, 1) := by decide +kernel
theorem d_S_teller_15 : decode b_S_teller 15 = .ok (.getfield 14, 3) := by decide +kernel
theorem d_S_teller_18 : decode b_S_teller 18 = .ok (.new 49, 3) := by decide +kernel
theorem d_S_teller_21 : decode b_S_teller 21 = .ok (.dup, 1) := by decide +kernel
theorem d_S_teller_22 : decode b_S_teller 22 = .ok (.invokespecial 51, 3) := by decide +kernel
theorem d_S_teller_25 : decode b_S_teller 25 = .ok (.invokevirtual 52, 3) := by decide +kernel
theorem d_S_teller_28 : decode b_S_teller 28 = .ok (.pop, 1) := by decide +kernel
theorem d_S_teller_29 : decode b_S_teller 29 = .ok (.aload_n 0, 1) := by decide +kernel
theorem d_S_teller_30 : decode b_S_teller 30 = .ok (.getfield 14, 3) := by decide +kernel
theorem d_S_teller_33 : decode b_S_teller 33 = .ok (.invokevirtual 45, 3) := by decide +kernel
theorem d_S_teller_36 : decode b_S_teller 36 = .ok (.iconst 1, 1) := by decide +kernel
theorem d_S_teller_37 : decode b_S_teller 37 = .ok (.isub, 1) := by decide +kernel
theorem d_S_teller_38 : decode b_S_teller 38 = .ok (.ireturn, 1) := by decide +kernel
def F_S_teller (b : Nat) (mm : gM) : Option (Int32 × gM) :=
  gb1 (gfR 0 0 (some b) mm) fun v1 =>
  gb1 (grc 9 v1 mm) fun b6 =>
  gb2 (F_AL_size b6  mm) fun v3 mm4 =>
  if v3 < (8 : Int32) then (
    gb1 (gfR 0 0 (some b) mm4) fun v9 =>
    gb2 (gnO 1 [.null, .null, .null, .int 0] 4 mm4) fun v11 mm13 =>
    gb1 v11 fun b17 =>
    gb2 (F_Teller_init b17  mm13) fun v14 mm15 =>
    gb1 (grc 9 v9 mm15) fun b22 =>
    gb2 (F_AL_add b22 (some b17) mm15) fun v19 mm20 =>
    gb1 (gfR 0 0 (some b) mm20) fun v24 =>
    gb1 (grc 9 v24 mm20) fun b29 =>
    gb2 (F_AL_size b29  mm20) fun v26 mm27 =>
    some ((v26 - (1 : Int32)), mm27))
  else (
    some ((-1 : Int32), mm4))
set_option maxHeartbeats 8000000 in
set_option maxRecDepth 100000 in
theorem w_S_teller {l : Launch} {E : gD} {n0 s0 : Nat} {b : Nat} {r : Int32} {mm res : gM} (h : F_S_teller b mm = some (r, res)) : xX l E Y_S_teller n0 s0 (some (.int r)) res 0 [(0, .inr (.inr (some b)))] [] mm := by
  unfold F_S_teller at h
  refine x_aloadn 0 0 d_S_teller_0 rfl rfl ?_
  replace h := gb1_elim h; obtain ⟨v1, h2, h⟩ := h
  refine x_getR 1 h2 fl_S_14 d_S_teller_1 ?_
  replace h := gb1_elim h; obtain ⟨b6, h7, h⟩ := h
  replace h := gb2_elim h; obtain ⟨v3, mm4, h5, h⟩ := h
  refine x_callV 4 0 (as := []) (st' := []) (rs := [.inl v3]) (k_AL_size h5) rfl cf_S_45 ⟨rfl, by decide +kernel, by decide, by decide, Nat.le_of_ble_eq_true rfl⟩ h7 rfl d_S_teller_4 ?_
  refine x_bipush 7 d_S_teller_7 (v := (8 : Int32)) (by decide +kernel) ?_
  refine x_icmp_lt 9 14 d_S_teller_9 (by decide) (fun c8 => ?_) (fun c8 => ?_)
  · replace h := gif_t h c8
    refine x_aloadn 14 0 d_S_teller_14 rfl rfl ?_
    replace h := gb1_elim h; obtain ⟨v9, h10, h⟩ := h
    refine x_getR 15 h10 fl_S_14 d_S_teller_15 ?_
    replace h := gb2_elim h; obtain ⟨v11, mm13, h12, h⟩ := h
    refine x_new 18 nw_S_49 h12 d_S_teller_18 ?_
    refine x_dup 21 d_S_teller_21 rfl ?_
    replace h := gb1_elim h; obtain ⟨b17, h18, h⟩ := h
    subst h18
    replace h := gb2_elim h; obtain ⟨v14, mm15, h16, h⟩ := h
    refine x_callI 22 0 (as := []) (st' := [.inr (.inr (some b17)), .inr (.inr v9)]) (k_Teller_init h16) cf_S_51 ⟨rfl, by decide +kernel, by decide, by decide, Nat.le_of_ble_eq_true rfl⟩ rfl d_S_teller_22 ?_
    replace h := gb1_elim h; obtain ⟨b22, h23, h⟩ := h
    replace h := gb2_elim h; obtain ⟨v19, mm20, h21, h⟩ := h
    refine x_callV 25 1 (as := [.inr (.inr (some b17))]) (st' := []) (rs := [.inl v19]) (k_AL_add h21) rfl cf_S_52 ⟨rfl, by decide +kernel, by decide, by decide, Nat.le_of_ble_eq_true rfl⟩ h23 rfl d_S_teller_25 ?_
    refine x_pop 28 d_S_teller_28 rfl ?_
    refine x_aloadn 29 0 d_S_teller_29 rfl rfl ?_
    replace h := gb1_elim h; obtain ⟨v24, h25, h⟩ := h
    refine x_getR 30 h25 fl_S_14 d_S_teller_30 ?_
    replace h := gb1_elim h; obtain ⟨b29, h30, h⟩ := h
    replace h := gb2_elim h; obtain ⟨v26, mm27, h28, h⟩ := h
    refine x_callV 33 0 (as := []) (st' := []) (rs := [.inl v26]) (k_AL_size h28) rfl cf_S_45 ⟨rfl, by decide +kernel, by decide, by decide, Nat.le_of_ble_eq_true rfl⟩ h30 rfl d_S_teller_33 ?_
    refine x_iconst 36 d_S_teller_36 (v := (1 : Int32)) (by decide +kernel) ?_
    refine x_isub 37 d_S_teller_37 ?_
    cases h
    exact x_ireturn 38 rfl d_S_teller_38
  · replace h := gif_f h c8
    refine x_iconst 12 d_S_teller_12 (v := (-1 : Int32)) (by decide +kernel) ?_
    cases h
    exact x_ireturn 13 rfl d_S_teller_13
theorem k_S_teller {b : Nat} {r : Int32} {mm res : gM} (h : F_S_teller b mm = some (r, res)) : ∀ (l : Launch) (E : gD), gLe mm res ∧ gMet l E Y_S_teller y_S_teller [.inr (.inr (some b))] (some (.int r)) mm res :=
  fun l E => ⟨(w_S_teller (l := l) (E := E) (n0 := 0) (s0 := 0) h).1, x_met (by decide +kernel) rfl rfl rfl (Nat.le_of_ble_eq_true rfl) (w_S_teller h)⟩
