-- M_teller Preconditions_checkIndex Objects_checkIndex AL_elementData AL_get S_tellerAt S_isKind S_cellOf S_isNumber S_isValue S_isDay Teller_placeOf
theorem d_M_teller_0 : decode b_M_teller 0 = .ok (.aload_n 0, 1) := by decide +kernel
theorem d_M_teller_1 : decode b_M_teller 1 = .ok (.getfield 82, 3) := by decide +kernel
theorem d_M_teller_4 : decode b_M_teller 4 = .ok (.bipush 8, 2) := by decide +kernel
theorem d_M_teller_6 : decode b_M_teller 6 = .ok (.if_icmp .ne 5, 3) := by decide +kernel
theorem d_M_teller_9 : decode b_M_teller 9 = .ok (.iconst (-1), 1) := by decide +kernel
theorem d_M_teller_10 : decode b_M_teller 10 = .ok (.ireturn, 1) := by decide +kernel
theorem d_M_teller_11 : decode b_M_teller 11 = .ok (.aload_n 0, 1) := by decide +kernel
theorem d_M_teller_12 : decode b_M_teller 12 = .ok (.dup, 1) := by decide +kernel
theorem d_M_teller_13 : decode b_M_teller 13 = .ok (.getfield 82, 3) := by decide +kernel
theorem d_M_teller_16 : decode b_M_teller 16 = .ok (.iconst 1, 1) := by decide +kernel
theorem d_M_teller_17 : decode b_M_teller 17 = .ok (.iadd, 1) := by decide +kernel
theorem d_M_teller_18 : decode b_M_teller 18 = .ok (.putfield 82, 3) := by decide +kernel
theorem d_M_teller_21 : decode b_M_teller 21 = .ok (.aload_n 0, 1) := by decide +kernel
theorem d_M_teller_22 : decode b_M_teller 22 = .ok (.getfield 82, 3) := by decide +kernel
theorem d_M_teller_25 : decode b_M_teller 25 = .ok (.iconst 1, 1) := by decide +kernel
theorem d_M_teller_26 : decode b_M_teller 26 = .ok (.isub, 1) := by decide +kernel
theorem d_M_teller_27 : decode b_M_teller 27 = .ok (.ireturn, 1) := by decide +kernel
def F_M_teller (b : Nat) (mm : gM) : Option (Int32 × gM) :=
  gb1 (gfI 10 0 (some b) mm) fun v1 =>
  if v1 = (8 : Int32) then (
    some ((-1 : Int32), mm))
  else (
    gb1 (gfI 10 0 (some b) mm) fun v4 =>
    gb1 (gpV 10 0 (some b) (.int (v4 + (1 : Int32))) mm) fun mm6 =>
    gb1 (gfI 10 0 (some b) mm6) fun v8 =>
    some ((v8 - (1 : Int32)), mm6))
set_option maxHeartbeats 8000000 in
set_option maxRecDepth 100000 in
theorem w_M_teller {l : Launch} {E : gD} {n0 s0 : Nat} {b : Nat} {r : Int32} {mm res : gM} (h : F_M_teller b mm = some (r, res)) : xX l E Y_M_teller n0 s0 (some (.int r)) res 0 [(0, .inr (.inr (some b)))] [] mm := by
  unfold F_M_teller at h
  refine x_aloadn 0 0 d_M_teller_0 rfl rfl ?_
  replace h := gb1_elim h; obtain ⟨v1, h2, h⟩ := h
  refine x_getI 1 h2 fl_M_82 d_M_teller_1 ?_
  refine x_bipush 4 d_M_teller_4 (v := (8 : Int32)) (by decide +kernel) ?_
  refine x_icmp_ne 6 11 d_M_teller_6 (by decide) (fun c3 => ?_) (fun c3 => ?_)
  · replace h := gif_t h c3
    refine x_iconst 9 d_M_teller_9 (v := (-1 : Int32)) (by decide +kernel) ?_
    cases h
    exact x_ireturn 10 rfl d_M_teller_10
  · replace h := gif_f h c3
    refine x_aloadn 11 0 d_M_teller_11 rfl rfl ?_
    refine x_dup 12 d_M_teller_12 rfl ?_
    replace h := gb1_elim h; obtain ⟨v4, h5, h⟩ := h
    refine x_getI 13 h5 fl_M_82 d_M_teller_13 ?_
    refine x_iconst 16 d_M_teller_16 (v := (1 : Int32)) (by decide +kernel) ?_
    refine x_iadd 17 d_M_teller_17 ?_
    replace h := gb1_elim h; obtain ⟨mm6, h7, h⟩ := h
    refine x_putV 18 fp_M_82 rfl rfl h7 d_M_teller_18 ?_
    refine x_aloadn 21 0 d_M_teller_21 rfl rfl ?_
    replace h := gb1_elim h; obtain ⟨v8, h9, h⟩ := h
    refine x_getI 22 h9 fl_M_82 d_M_teller_22 ?_
    refine x_iconst 25 d_M_teller_25 (v := (1 : Int32)) (by decide +kernel) ?_
    refine x_isub 26 d_M_teller_26 ?_
    cases h
    exact x_ireturn 27 rfl d_M_teller_27
theorem k_M_teller {b : Nat} {r : Int32} {mm res : gM} (h : F_M_teller b mm = some (r, res)) : ∀ (l : Launch) (E : gD), gLe mm res ∧ gMet l E Y_M_teller y_M_teller [.inr (.inr (some b))] (some (.int r)) mm res :=
  fun l E => ⟨(w_M_teller (l := l) (E := E) (n0 := 0) (s0 := 0) h).1, x_met (by decide +kernel) rfl rfl rfl (Nat.le_of_ble_eq_true rfl) (w_M_teller h)⟩
theorem d_Preconditions_checkIndex_0 : decode b_Preconditions_checkIndex 0 = .ok (.iload_n 0, 1) := by decide +kernel
theorem d_Preconditions_checkIndex_1 : decode b_Preconditions_checkIndex 1 = .ok (.ifCond .lt 8, 3) := by decide +kernel
theorem d_Preconditions_checkIndex_4 : decode b_Preconditions_checkIndex 4 = .ok (.iload_n 0, 1) := by decide +kernel
theorem d_Preconditions_checkIndex_5 : decode b_Preconditions_checkIndex 5 = .ok (.iload_n 1, 1) := by decide +kernel
theorem d_Preconditions_checkIndex_6 : decode b_Preconditions_checkIndex 6 = .ok (.if_icmp .lt 10, 3) := by decide +kernel
theorem d_Preconditions_checkIndex_9 : decode b_Preconditions_checkIndex 9 = .ok (.aload_n 2, 1) := by decide +kernel
theorem d_Preconditions_checkIndex_10 : decode b_Preconditions_checkIndex 10 = .ok (.iload_n 0, 1) := by decide +kernel
theorem d_Preconditions_checkIndex_11 : decode b_Preconditions_checkIndex 11 = .ok (.iload_n 1, 1) := by decide +kernel
theorem d_Preconditions_checkIndex_12 : decode b_Preconditions_checkIndex 12 = .ok (.invokestatic 95, 3) := by decide +kernel
theorem d_Preconditions_checkIndex_15 : decode b_Preconditions_checkIndex 15 = .ok (.athrow, 1) := by decide +kernel
theorem d_Preconditions_checkIndex_16 : decode b_Preconditions_checkIndex 16 = .ok (.iload_n 0, 1) := by decide +kernel
theorem d_Preconditions_checkIndex_17 : decode b_Preconditions_checkIndex 17 = .ok (.ireturn, 1) := by decide +kernel
def F_Preconditions_checkIndex (a0 : Int32) (a1 : Int32) (a2 : Option Nat) (mm : gM) : Option (Int32 × gM) :=
  if a0 < 0 then (
    none)
  else (
    if a0 < a1 then (
      some (a0, mm))
    else (
      none))
set_option maxHeartbeats 8000000 in
set_option maxRecDepth 100000 in
theorem w_Preconditions_checkIndex {l : Launch} {E : gD} {n0 s0 : Nat} {a0 : Int32} {a1 : Int32} {a2 : Option Nat} {r : Int32} {mm res : gM} (h : F_Preconditions_checkIndex a0 a1 a2 mm = some (r, res)) : xX l E Y_Preconditions_checkIndex n0 s0 (some (.int r)) res 0 [(0, .inl a0), (1, .inl a1), (2, .inr (.inr a2))] [] mm := by
  unfold F_Preconditions_checkIndex at h
  refine x_iloadn 0 0 d_Preconditions_checkIndex_0 rfl rfl ?_
  refine x_if_lt 1 9 d_Preconditions_checkIndex_1 (by decide) (fun c1 => ?_) (fun c1 => ?_)
  · replace h := gif_t h c1
    refine x_aloadn 9 2 d_Preconditions_checkIndex_9 rfl rfl ?_
    refine x_iloadn 10 0 d_Preconditions_checkIndex_10 rfl rfl ?_
    refine x_iloadn 11 1 d_Preconditions_checkIndex_11 rfl rfl ?_
    cases h
  · replace h := gif_f h c1
    refine x_iloadn 4 0 d_Preconditions_checkIndex_4 rfl rfl ?_
    refine x_iloadn 5 1 d_Preconditions_checkIndex_5 rfl rfl ?_
    refine x_icmp_lt 6 16 d_Preconditions_checkIndex_6 (by decide) (fun c2 => ?_) (fun c2 => ?_)
    · replace h := gif_t h c2
      refine x_iloadn 16 0 d_Preconditions_checkIndex_16 rfl rfl ?_
      cases h
      exact x_ireturn 17 rfl d_Preconditions_checkIndex_17
    · replace h := gif_f h c2
      refine x_aloadn 9 2 d_Preconditions_checkIndex_9 rfl rfl ?_
      refine x_iloadn 10 0 d_Preconditions_checkIndex_10 rfl rfl ?_
      refine x_iloadn 11 1 d_Preconditions_checkIndex_11 rfl rfl ?_
      cases h
theorem k_Preconditions_checkIndex {a0 : Int32} {a1 : Int32} {a2 : Option Nat} {r : Int32} {mm res : gM} (h : F_Preconditions_checkIndex a0 a1 a2 mm = some (r, res)) : ∀ (l : Launch) (E : gD), gLe mm res ∧ gMet l E Y_Preconditions_checkIndex y_Preconditions_checkIndex [.inl a0, .inl a1, .inr (.inr a2)] (some (.int r)) mm res :=
  fun l E => ⟨(w_Preconditions_checkIndex (l := l) (E := E) (n0 := 0) (s0 := 0) h).1, x_met (by decide +kernel) rfl rfl rfl (Nat.le_of_ble_eq_true rfl) (w_Preconditions_checkIndex h)⟩
theorem d_Objects_checkIndex_0 : decode b_Objects_checkIndex 0 = .ok (.iload_n 0, 1) := by decide +kernel
theorem d_Objects_checkIndex_1 : decode b_Objects_checkIndex 1 = .ok (.iload_n 1, 1) := by decide +kernel
theorem d_Objects_checkIndex_2 : decode b_Objects_checkIndex 2 = .ok (.aconst_null, 1) := by decide +kernel
theorem d_Objects_checkIndex_3 : decode b_Objects_checkIndex 3 = .ok (.invokestatic 105, 3) := by decide +kernel
theorem d_Objects_checkIndex_6 : decode b_Objects_checkIndex 6 = .ok (.ireturn, 1) := by decide +kernel
def F_Objects_checkIndex (a0 : Int32) (a1 : Int32) (mm : gM) : Option (Int32 × gM) :=
  gb2 (F_Preconditions_checkIndex a0 a1 none mm) fun v1 mm2 =>
  some (v1, mm2)
set_option maxHeartbeats 8000000 in
set_option maxRecDepth 100000 in
theorem w_Objects_checkIndex {l : Launch} {E : gD} {n0 s0 : Nat} {a0 : Int32} {a1 : Int32} {r : Int32} {mm res : gM} (h : F_Objects_checkIndex a0 a1 mm = some (r, res)) : xX l E Y_Objects_checkIndex n0 s0 (some (.int r)) res 0 [(0, .inl a0), (1, .inl a1)] [] mm := by
  unfold F_Objects_checkIndex at h
  refine x_iloadn 0 0 d_Objects_checkIndex_0 rfl rfl ?_
  refine x_iloadn 1 1 d_Objects_checkIndex_1 rfl rfl ?_
  refine x_null 2 d_Objects_checkIndex_2 ?_
  replace h := gb2_elim h; obtain ⟨v1, mm2, h3, h⟩ := h
  refine x_callS 3 3 (as := [.inl a0, .inl a1, .inr (.inr none)]) (st' := []) (rs := [.inl v1]) (k_Preconditions_checkIndex h3) rfl cf_Objects_105 ⟨rfl, by decide +kernel, by decide, by decide, Nat.le_of_ble_eq_true rfl⟩ rfl d_Objects_checkIndex_3 ?_
  cases h
  exact x_ireturn 6 rfl d_Objects_checkIndex_6
theorem k_Objects_checkIndex {a0 : Int32} {a1 : Int32} {r : Int32} {mm res : gM} (h : F_Objects_checkIndex a0 a1 mm = some (r, res)) : ∀ (l : Launch) (E : gD), gLe mm res ∧ gMet l E Y_Objects_checkIndex y_Objects_checkIndex [.inl a0, .inl a1] (some (.int r)) mm res :=
  fun l E => ⟨(w_Objects_checkIndex (l := l) (E := E) (n0 := 0) (s0 := 0) h).1, x_met (by decide +kernel) rfl rfl rfl (Nat.le_of_ble_eq_true rfl) (w_Objects_checkIndex h)⟩
theorem d_AL_elementData_0 : decode b_AL_elementData 0 = .ok (.aload_n 0, 1) := by decide +kernel
theorem d_AL_elementData_1 : decode b_AL_elementData 1 = .ok (.getfield 9, 3) := by decide +kernel
theorem d_AL_elementData_4 : decode b_AL_elementData 4 = .ok (.iload_n 1, 1) := by decide +kernel
theorem d_AL_elementData_5 : decode b_AL_elementData 5 = .ok (.aaload, 1) := by decide +kernel
theorem d_AL_elementData_6 : decode b_AL_elementData 6 = .ok (.areturn, 1) := by decide +kernel
def F_AL_elementData (b : Nat) (a0 : Int32) (mm : gM) : Option (Option Nat × gM) :=
  gb1 (gfR 9 0 (some b) mm) fun v1 =>
  gb1 (gaR 4 v1 a0 mm) fun v3 =>
  some (v3, mm)
set_option maxHeartbeats 8000000 in
set_option maxRecDepth 100000 in
theorem w_AL_elementData {l : Launch} {E : gD} {n0 s0 : Nat} {b : Nat} {a0 : Int32} {r : Option Nat} {mm res : gM} (h : F_AL_elementData b a0 mm = some (r, res)) : xX l E Y_AL_elementData n0 s0 (some (va_rf r)) res 0 [(0, .inr (.inr (some b))), (1, .inl a0)] [] mm := by
  unfold F_AL_elementData at h
  refine x_aloadn 0 0 d_AL_elementData_0 rfl rfl ?_
  replace h := gb1_elim h; obtain ⟨v1, h2, h⟩ := h
  refine x_getR 1 h2 fl_AL_9 d_AL_elementData_1 ?_
  refine x_iloadn 4 1 d_AL_elementData_4 rfl rfl ?_
  replace h := gb1_elim h; obtain ⟨v3, h4, h⟩ := h
  refine x_aald 5 rfl h4 d_AL_elementData_5 ?_
  cases h
  exact x_areturn 6 rfl (Or.inl ⟨_, rfl⟩) d_AL_elementData_6
theorem k_AL_elementData {b : Nat} {a0 : Int32} {r : Option Nat} {mm res : gM} (h : F_AL_elementData b a0 mm = some (r, res)) : ∀ (l : Launch) (E : gD), gLe mm res ∧ gMet l E Y_AL_elementData y_AL_elementData [.inr (.inr (some b)), .inl a0] (some (va_rf r)) mm res :=
  fun l E => ⟨(w_AL_elementData (l := l) (E := E) (n0 := 0) (s0 := 0) h).1, x_met (by decide +kernel) rfl rfl rfl (Nat.le_of_ble_eq_true rfl) (w_AL_elementData h)⟩
theorem d_AL_get_0 : decode b_AL_get 0 = .ok (.iload_n 1, 1) := by decide +kernel
theorem d_AL_get_1 : decode b_AL_get 1 = .ok (.aload_n 0, 1) := by decide +kernel
theorem d_AL_get_2 : decode b_AL_get 2 = .ok (.getfield 48, 3) := by decide +kernel
theorem d_AL_get_5 : decode b_AL_get 5 = .ok (.invokestatic 118, 3) := by decide +kernel
theorem d_AL_get_8 : decode b_AL_get 8 = .ok (.pop, 1) := by decide +kernel
theorem d_AL_get_9 : decode b_AL_get 9 = .ok (.aload_n 0, 1) := by decide +kernel
theorem d_AL_get_10 : decode b_AL_get 10 = .ok (.iload_n 1, 1) := by decide +kernel
theorem d_AL_get_11 : decode b_AL_get 11 = .ok (.invokevirtual 123, 3) := by decide +kernel
theorem d_AL_get_14 : decode b_AL_get 14 = .ok (.areturn, 1) := by decide +kernel
def F_AL_get (b : Nat) (a0 : Int32) (mm : gM) : Option (Option Nat × gM) :=
  gb1 (gfI 9 1 (some b) mm) fun v1 =>
  gb2 (F_Objects_checkIndex a0 v1 mm) fun v3 mm4 =>
  gb1 (grc 9 (some b) mm4) fun b9 =>
  gb2 (F_AL_elementData b9 a0 mm4) fun v6 mm7 =>
  some (v6, mm7)
set_option maxHeartbeats 8000000 in
set_option maxRecDepth 100000 in
theorem w_AL_get {l : Launch} {E : gD} {n0 s0 : Nat} {b : Nat} {a0 : Int32} {r : Option Nat} {mm res : gM} (h : F_AL_get b a0 mm = some (r, res)) : xX l E Y_AL_get n0 s0 (some (va_rf r)) res 0 [(0, .inr (.inr (some b))), (1, .inl a0)] [] mm := by
  unfold F_AL_get at h
  refine x_iloadn 0 1 d_AL_get_0 rfl rfl ?_
  refine x_aloadn 1 0 d_AL_get_1 rfl rfl ?_
  replace h := gb1_elim h; obtain ⟨v1, h2, h⟩ := h
  refine x_getI 2 h2 fl_AL_48 d_AL_get_2 ?_
  replace h := gb2_elim h; obtain ⟨v3, mm4, h5, h⟩ := h
  refine x_callS 5 2 (as := [.inl a0, .inl v1]) (st' := []) (rs := [.inl v3]) (k_Objects_checkIndex h5) rfl cf_AL_118 ⟨rfl, by decide +kernel, by decide, by decide, Nat.le_of_ble_eq_true rfl⟩ rfl d_AL_get_5 ?_
  refine x_pop 8 d_AL_get_8 rfl ?_
  refine x_aloadn 9 0 d_AL_get_9 rfl rfl ?_
  refine x_iloadn 10 1 d_AL_get_10 rfl rfl ?_
  replace h := gb1_elim h; obtain ⟨b9, h10, h⟩ := h
  replace h := gb2_elim h; obtain ⟨v6, mm7, h8, h⟩ := h
  refine x_callV 11 1 (as := [.inl a0]) (st' := []) (rs := [.inr (.inr v6)]) (k_AL_elementData h8) rfl cf_AL_123 ⟨rfl, by decide +kernel, by decide, by decide, Nat.le_of_ble_eq_true rfl⟩ h10 rfl d_AL_get_11 ?_
  cases h
  exact x_areturn 14 rfl (Or.inl ⟨_, rfl⟩) d_AL_get_14
theorem k_AL_get {b : Nat} {a0 : Int32} {r : Option Nat} {mm res : gM} (h : F_AL_get b a0 mm = some (r, res)) : ∀ (l : Launch) (E : gD), gLe mm res ∧ gMet l E Y_AL_get y_AL_get [.inr (.inr (some b)), .inl a0] (some (va_rf r)) mm res :=
  fun l E => ⟨(w_AL_get (l := l) (E := E) (n0 := 0) (s0 := 0) h).1, x_met (by decide +kernel) rfl rfl rfl (Nat.le_of_ble_eq_true rfl) (w_AL_get h)⟩
theorem d_S_tellerAt_0 : decode b_S_tellerAt 0 = .ok (.iload_n 1, 1) := by decide +kernel
theorem d_S_tellerAt_1 : decode b_S_tellerAt 1 = .ok (.ifCond .lt 28, 3) := by decide +kernel
theorem d_S_tellerAt_4 : decode b_S_tellerAt 4 = .ok (.iload_n 1, 1) := by decide +kernel
theorem d_S_tellerAt_5 : decode b_S_tellerAt 5 = .ok (.aload_n 0, 1) := by decide +kernel
theorem d_S_tellerAt_6 : decode b_S_tellerAt 6 = .ok (.getfield 14, 3) := by decide +kernel
theorem d_S_tellerAt_9 : decode b_S_tellerAt 9 = .ok (.invokevirtual 45, 3) := by decide +kernel
theorem d_S_tellerAt_12 : decode b_S_tellerAt 12 = .ok (.if_icmp .ge 17, 3) := by decide +kernel
theorem d_S_tellerAt_15 : decode b_S_tellerAt 15 = .ok (.aload_n 0, 1) := by decide +kernel
theorem d_S_tellerAt_16 : decode b_S_tellerAt 16 = .ok (.getfield 14, 3) := by decide +kernel
theorem d_S_tellerAt_19 : decode b_S_tellerAt 19 = .ok (.iload_n 1, 1) := by decide +kernel
theorem d_S_tellerAt_20 : decode b_S_tellerAt 20 = .ok (.invokevirtual 208, 3) := by decide +kernel
theorem d_S_tellerAt_23 : decode b_S_tellerAt 23 = .ok (.checkcast 49, 3) := by decide +kernel
theorem d_S_tellerAt_26 : decode b_S_tellerAt 26 = .ok (.goto 4, 3) := by decide +kernel
theorem d_S_tellerAt_29 : decode b_S_tellerAt 29 = .ok (.aconst_null, 1) := by decide +kernel
theorem d_S_tellerAt_30 : decode b_S_tellerAt 30 = .ok (.areturn, 1) := by decide +kernel
def F_S_tellerAt (b : Nat) (a0 : Int32) (mm : gM) : Option (Option Nat × gM) :=
  if a0 < 0 then (
    some (none, mm))
  else (
    gb1 (gfR 0 0 (some b) mm) fun v2 =>
    gb1 (grc 9 v2 mm) fun b7 =>
    gb2 (F_AL_size b7  mm) fun v4 mm5 =>
    if v4 ≤ a0 then (
      some (none, mm5))
    else (
      gb1 (gfR 0 0 (some b) mm5) fun v10 =>
      gb1 (grc 9 v10 mm5) fun b15 =>
      gb2 (F_AL_get b15 a0 mm5) fun v12 mm13 =>
      gb1 (gcs 1 v12 mm13) fun u17 =>
      some (v12, mm13)))
set_option maxHeartbeats 8000000 in
set_option maxRecDepth 100000 in
theorem w_S_tellerAt {l : Launch} {E : gD} {n0 s0 : Nat} {b : Nat} {a0 : Int32} {r : Option Nat} {mm res : gM} (h : F_S_tellerAt b a0 mm = some (r, res)) : xX l E Y_S_tellerAt n0 s0 (some (va_rf r)) res 0 [(0, .inr (.inr (some b))), (1, .inl a0)] [] mm := by
  unfold F_S_tellerAt at h
  refine x_iloadn 0 1 d_S_tellerAt_0 rfl rfl ?_
  refine x_if_lt 1 29 d_S_tellerAt_1 (by decide) (fun c1 => ?_) (fun c1 => ?_)
  · replace h := gif_t h c1
    refine x_null 29 d_S_tellerAt_29 ?_
    cases h
    exact x_areturn 30 rfl (Or.inl ⟨_, rfl⟩) d_S_tellerAt_30
  · replace h := gif_f h c1
    refine x_iloadn 4 1 d_S_tellerAt_4 rfl rfl ?_
    refine x_aloadn 5 0 d_S_tellerAt_5 rfl rfl ?_
    replace h := gb1_elim h; obtain ⟨v2, h3, h⟩ := h
    refine x_getR 6 h3 fl_S_14 d_S_tellerAt_6 ?_
    replace h := gb1_elim h; obtain ⟨b7, h8, h⟩ := h
    replace h := gb2_elim h; obtain ⟨v4, mm5, h6, h⟩ := h
    refine x_callV 9 0 (as := []) (st' := [.inl a0]) (rs := [.inl v4]) (k_AL_size h6) rfl cf_S_45 ⟨rfl, by decide +kernel, by decide, by decide, Nat.le_of_ble_eq_true rfl⟩ h8 rfl d_S_tellerAt_9 ?_
    refine x_icmp_ge 12 29 d_S_tellerAt_12 (by decide) (fun c9 => ?_) (fun c9 => ?_)
    · replace h := gif_t h c9
      refine x_null 29 d_S_tellerAt_29 ?_
      cases h
      exact x_areturn 30 rfl (Or.inl ⟨_, rfl⟩) d_S_tellerAt_30
    · replace h := gif_f h c9
      refine x_aloadn 15 0 d_S_tellerAt_15 rfl rfl ?_
      replace h := gb1_elim h; obtain ⟨v10, h11, h⟩ := h
      refine x_getR 16 h11 fl_S_14 d_S_tellerAt_16 ?_
      refine x_iloadn 19 1 d_S_tellerAt_19 rfl rfl ?_
      replace h := gb1_elim h; obtain ⟨b15, h16, h⟩ := h
      replace h := gb2_elim h; obtain ⟨v12, mm13, h14, h⟩ := h
      refine x_callV 20 1 (as := [.inl a0]) (st' := []) (rs := [.inr (.inr v12)]) (k_AL_get h14) rfl cf_S_208 ⟨rfl, by decide +kernel, by decide, by decide, Nat.le_of_ble_eq_true rfl⟩ h16 rfl d_S_tellerAt_20 ?_
      replace h := gb1_elim h; obtain ⟨u17, h18, h⟩ := h
      refine x_cast 23 h18 (show gCl[1]? = some (R_Teller, T_Teller, 4) from rfl) (gT_in0 84 rfl) d_S_tellerAt_23 ?_
      refine x_goto 26 30 d_S_tellerAt_26 (by decide) ?_
      cases h
      exact x_areturn 30 rfl (Or.inl ⟨_, rfl⟩) d_S_tellerAt_30
theorem k_S_tellerAt {b : Nat} {a0 : Int32} {r : Option Nat} {mm res : gM} (h : F_S_tellerAt b a0 mm = some (r, res)) : ∀ (l : Launch) (E : gD), gLe mm res ∧ gMet l E Y_S_tellerAt y_S_tellerAt [.inr (.inr (some b)), .inl a0] (some (va_rf r)) mm res :=
  fun l E => ⟨(w_S_tellerAt (l := l) (E := E) (n0 := 0) (s0 := 0) h).1, x_met (by decide +kernel) rfl rfl rfl (Nat.le_of_ble_eq_true rfl) (w_S_tellerAt h)⟩
theorem d_S_isKind_0 : decode b_S_isKind 0 = .ok (.iload_n 0, 1) := by decide +kernel
theorem d_S_isKind_1 : decode b_S_isKind 1 = .ok (.ifCond .lt 13, 3) := by decide +kernel
theorem d_S_isKind_4 : decode b_S_isKind 4 = .ok (.iload_n 0, 1) := by decide +kernel
theorem d_S_isKind_5 : decode b_S_isKind 5 = .ok (.bipush 8, 2) := by decide +kernel
theorem d_S_isKind_7 : decode b_S_isKind 7 = .ok (.if_icmp .ge 7, 3) := by decide +kernel
theorem d_S_isKind_10 : decode b_S_isKind 10 = .ok (.iconst 1, 1) := by decide +kernel
theorem d_S_isKind_11 : decode b_S_isKind 11 = .ok (.goto 4, 3) := by decide +kernel
theorem d_S_isKind_14 : decode b_S_isKind 14 = .ok (.iconst 0, 1) := by decide +kernel
theorem d_S_isKind_15 : decode b_S_isKind 15 = .ok (.ireturn, 1) := by decide +kernel
def F_S_isKind (a0 : Int32) (mm : gM) : Option (Int32 × gM) :=
  if a0 < 0 then (
    some ((0 : Int32), mm))
  else (
    if (8 : Int32) ≤ a0 then (
      some ((0 : Int32), mm))
    else (
      some ((1 : Int32), mm)))
set_option maxHeartbeats 8000000 in
set_option maxRecDepth 100000 in
theorem w_S_isKind {l : Launch} {E : gD} {n0 s0 : Nat} {a0 : Int32} {r : Int32} {mm res : gM} (h : F_S_isKind a0 mm = some (r, res)) : xX l E Y_S_isKind n0 s0 (some (.int r)) res 0 [(0, .inl a0)] [] mm := by
  unfold F_S_isKind at h
  refine x_iloadn 0 0 d_S_isKind_0 rfl rfl ?_
  refine x_if_lt 1 14 d_S_isKind_1 (by decide) (fun c1 => ?_) (fun c1 => ?_)
  · replace h := gif_t h c1
    refine x_iconst 14 d_S_isKind_14 (v := (0 : Int32)) (by decide +kernel) ?_
    cases h
    exact x_zreturn 15 (by decide) rfl d_S_isKind_15
  · replace h := gif_f h c1
    refine x_iloadn 4 0 d_S_isKind_4 rfl rfl ?_
    refine x_bipush 5 d_S_isKind_5 (v := (8 : Int32)) (by decide +kernel) ?_
    refine x_icmp_ge 7 14 d_S_isKind_7 (by decide) (fun c2 => ?_) (fun c2 => ?_)
    · replace h := gif_t h c2
      refine x_iconst 14 d_S_isKind_14 (v := (0 : Int32)) (by decide +kernel) ?_
      cases h
      exact x_zreturn 15 (by decide) rfl d_S_isKind_15
    · replace h := gif_f h c2
      refine x_iconst 10 d_S_isKind_10 (v := (1 : Int32)) (by decide +kernel) ?_
      refine x_goto 11 15 d_S_isKind_11 (by decide) ?_
      cases h
      exact x_zreturn 15 (by decide) rfl d_S_isKind_15
theorem k_S_isKind {a0 : Int32} {r : Int32} {mm res : gM} (h : F_S_isKind a0 mm = some (r, res)) : ∀ (l : Launch) (E : gD), gLe mm res ∧ gMet l E Y_S_isKind y_S_isKind [.inl a0] (some (.int r)) mm res :=
  fun l E => ⟨(w_S_isKind (l := l) (E := E) (n0 := 0) (s0 := 0) h).1, x_met (by decide +kernel) rfl rfl rfl (Nat.le_of_ble_eq_true rfl) (w_S_isKind h)⟩
theorem d_S_cellOf_0 : decode b_S_cellOf 0 = .ok (.iload_n 0, 1) := by decide +kernel
theorem d_S_cellOf_1 : decode b_S_cellOf 1 = .ok (.ifCond .lt 16, 3) := by decide +kernel
theorem d_S_cellOf_4 : decode b_S_cellOf 4 = .ok (.iload_n 0, 1) := by decide +kernel
theorem d_S_cellOf_5 : decode b_S_cellOf 5 = .ok (.bipush 16, 2) := by decide +kernel
theorem d_S_cellOf_7 : decode b_S_cellOf 7 = .ok (.if_icmp .ge 10, 3) := by decide +kernel
theorem d_S_cellOf_10 : decode b_S_cellOf 10 = .ok (.iload_n 1, 1) := by decide +kernel
theorem d_S_cellOf_11 : decode b_S_cellOf 11 = .ok (.invokestatic 168, 3) := by decide +kernel
theorem d_S_cellOf_14 : decode b_S_cellOf 14 = .ok (.ifCond .ne 5, 3) := by decide +kernel
theorem d_S_cellOf_17 : decode b_S_cellOf 17 = .ok (.iconst (-1), 1) := by decide +kernel
theorem d_S_cellOf_18 : decode b_S_cellOf 18 = .ok (.ireturn, 1) := by decide +kernel
theorem d_S_cellOf_19 : decode b_S_cellOf 19 = .ok (.iload_n 0, 1) := by decide +kernel
theorem d_S_cellOf_20 : decode b_S_cellOf 20 = .ok (.bipush 8, 2) := by decide +kernel
theorem d_S_cellOf_22 : decode b_S_cellOf 22 = .ok (.imul, 1) := by decide +kernel
theorem d_S_cellOf_23 : decode b_S_cellOf 23 = .ok (.iload_n 1, 1) := by decide +kernel
theorem d_S_cellOf_24 : decode b_S_cellOf 24 = .ok (.iadd, 1) := by decide +kernel
theorem d_S_cellOf_25 : decode b_S_cellOf 25 = .ok (.ireturn, 1) := by decide +kernel
def F_S_cellOf (a0 : Int32) (a1 : Int32) (mm : gM) : Option (Int32 × gM) :=
  if a0 < 0 then (
    some ((-1 : Int32), mm))
  else (
    if (16 : Int32) ≤ a0 then (
      some ((-1 : Int32), mm))
    else (
      gb2 (F_S_isKind a1 mm) fun v3 mm4 =>
      if v3 = 0 then (
        some ((-1 : Int32), mm4))
      else (
        some (((a0 * (8 : Int32)) + a1), mm4))))
set_option maxHeartbeats 8000000 in
set_option maxRecDepth 100000 in
theorem w_S_cellOf {l : Launch} {E : gD} {n0 s0 : Nat} {a0 : Int32} {a1 : Int32} {r : Int32} {mm res : gM} (h : F_S_cellOf a0 a1 mm = some (r, res)) : xX l E Y_S_cellOf n0 s0 (some (.int r)) res 0 [(0, .inl a0), (1, .inl a1)] [] mm := by
  unfold F_S_cellOf at h
  refine x_iloadn 0 0 d_S_cellOf_0 rfl rfl ?_
  refine x_if_lt 1 17 d_S_cellOf_1 (by decide) (fun c1 => ?_) (fun c1 => ?_)
  · replace h := gif_t h c1
    refine x_iconst 17 d_S_cellOf_17 (v := (-1 : Int32)) (by decide +kernel) ?_
    cases h
    exact x_ireturn 18 rfl d_S_cellOf_18
  · replace h := gif_f h c1
    refine x_iloadn 4 0 d_S_cellOf_4 rfl rfl ?_
    refine x_bipush 5 d_S_cellOf_5 (v := (16 : Int32)) (by decide +kernel) ?_
    refine x_icmp_ge 7 17 d_S_cellOf_7 (by decide) (fun c2 => ?_) (fun c2 => ?_)
    · replace h := gif_t h c2
      refine x_iconst 17 d_S_cellOf_17 (v := (-1 : Int32)) (by decide +kernel) ?_
      cases h
      exact x_ireturn 18 rfl d_S_cellOf_18
    · replace h := gif_f h c2
      refine x_iloadn 10 1 d_S_cellOf_10 rfl rfl ?_
      replace h := gb2_elim h; obtain ⟨v3, mm4, h5, h⟩ := h
      refine x_callS 11 1 (as := [.inl a1]) (st' := []) (rs := [.inl v3]) (k_S_isKind h5) rfl cf_S_168 ⟨rfl, by decide +kernel, by decide, by decide, Nat.le_of_ble_eq_true rfl⟩ rfl d_S_cellOf_11 ?_
      refine x_if_ne 14 19 d_S_cellOf_14 (by decide) (fun c6 => ?_) (fun c6 => ?_)
      · replace h := gif_t h c6
        refine x_iconst 17 d_S_cellOf_17 (v := (-1 : Int32)) (by decide +kernel) ?_
        cases h
        exact x_ireturn 18 rfl d_S_cellOf_18
      · replace h := gif_f h c6
        refine x_iloadn 19 0 d_S_cellOf_19 rfl rfl ?_
        refine x_bipush 20 d_S_cellOf_20 (v := (8 : Int32)) (by decide +kernel) ?_
        refine x_imul 22 d_S_cellOf_22 ?_
        refine x_iloadn 23 1 d_S_cellOf_23 rfl rfl ?_
        refine x_iadd 24 d_S_cellOf_24 ?_
        cases h
        exact x_ireturn 25 rfl d_S_cellOf_25
theorem k_S_cellOf {a0 : Int32} {a1 : Int32} {r : Int32} {mm res : gM} (h : F_S_cellOf a0 a1 mm = some (r, res)) : ∀ (l : Launch) (E : gD), gLe mm res ∧ gMet l E Y_S_cellOf y_S_cellOf [.inl a0, .inl a1] (some (.int r)) mm res :=
  fun l E => ⟨(w_S_cellOf (l := l) (E := E) (n0 := 0) (s0 := 0) h).1, x_met (by decide +kernel) rfl rfl rfl (Nat.le_of_ble_eq_true rfl) (w_S_cellOf h)⟩
theorem d_S_isNumber_0 : decode b_S_isNumber 0 = .ok (.iload_n 0, 1) := by decide +kernel
theorem d_S_isNumber_1 : decode b_S_isNumber 1 = .ok (.iconst 1, 1) := by decide +kernel
theorem d_S_isNumber_2 : decode b_S_isNumber 2 = .ok (.if_icmp .lt 14, 3) := by decide +kernel
theorem d_S_isNumber_5 : decode b_S_isNumber 5 = .ok (.iload_n 0, 1) := by decide +kernel
theorem d_S_isNumber_6 : decode b_S_isNumber 6 = .ok (.sipush 9999, 3) := by decide +kernel
theorem d_S_isNumber_9 : decode b_S_isNumber 9 = .ok (.if_icmp .gt 7, 3) := by decide +kernel
theorem d_S_isNumber_12 : decode b_S_isNumber 12 = .ok (.iconst 1, 1) := by decide +kernel
theorem d_S_isNumber_13 : decode b_S_isNumber 13 = .ok (.goto 4, 3) := by decide +kernel
theorem d_S_isNumber_16 : decode b_S_isNumber 16 = .ok (.iconst 0, 1) := by decide +kernel
theorem d_S_isNumber_17 : decode b_S_isNumber 17 = .ok (.ireturn, 1) := by decide +kernel
def F_S_isNumber (a0 : Int32) (mm : gM) : Option (Int32 × gM) :=
  if a0 < (1 : Int32) then (
    some ((0 : Int32), mm))
  else (
    if (9999 : Int32) < a0 then (
      some ((0 : Int32), mm))
    else (
      some ((1 : Int32), mm)))
set_option maxHeartbeats 8000000 in
set_option maxRecDepth 100000 in
theorem w_S_isNumber {l : Launch} {E : gD} {n0 s0 : Nat} {a0 : Int32} {r : Int32} {mm res : gM} (h : F_S_isNumber a0 mm = some (r, res)) : xX l E Y_S_isNumber n0 s0 (some (.int r)) res 0 [(0, .inl a0)] [] mm := by
  unfold F_S_isNumber at h
  refine x_iloadn 0 0 d_S_isNumber_0 rfl rfl ?_
  refine x_iconst 1 d_S_isNumber_1 (v := (1 : Int32)) (by decide +kernel) ?_
  refine x_icmp_lt 2 16 d_S_isNumber_2 (by decide) (fun c1 => ?_) (fun c1 => ?_)
  · replace h := gif_t h c1
    refine x_iconst 16 d_S_isNumber_16 (v := (0 : Int32)) (by decide +kernel) ?_
    cases h
    exact x_zreturn 17 (by decide) rfl d_S_isNumber_17
  · replace h := gif_f h c1
    refine x_iloadn 5 0 d_S_isNumber_5 rfl rfl ?_
    refine x_sipush 6 d_S_isNumber_6 (v := (9999 : Int32)) (by decide +kernel) ?_
    refine x_icmp_gt 9 16 d_S_isNumber_9 (by decide) (fun c2 => ?_) (fun c2 => ?_)
    · replace h := gif_t h c2
      refine x_iconst 16 d_S_isNumber_16 (v := (0 : Int32)) (by decide +kernel) ?_
      cases h
      exact x_zreturn 17 (by decide) rfl d_S_isNumber_17
    · replace h := gif_f h c2
      refine x_iconst 12 d_S_isNumber_12 (v := (1 : Int32)) (by decide +kernel) ?_
      refine x_goto 13 17 d_S_isNumber_13 (by decide) ?_
      cases h
      exact x_zreturn 17 (by decide) rfl d_S_isNumber_17
theorem k_S_isNumber {a0 : Int32} {r : Int32} {mm res : gM} (h : F_S_isNumber a0 mm = some (r, res)) : ∀ (l : Launch) (E : gD), gLe mm res ∧ gMet l E Y_S_isNumber y_S_isNumber [.inl a0] (some (.int r)) mm res :=
  fun l E => ⟨(w_S_isNumber (l := l) (E := E) (n0 := 0) (s0 := 0) h).1, x_met (by decide +kernel) rfl rfl rfl (Nat.le_of_ble_eq_true rfl) (w_S_isNumber h)⟩
theorem d_S_isValue_0 : decode b_S_isValue 0 = .ok (.lload_n 0, 1) := by decide +kernel
theorem d_S_isValue_1 : decode b_S_isValue 1 = .ok (.ldc2_w 204, 3) := by decide +kernel
theorem d_S_isValue_4 : decode b_S_isValue 4 = .ok (.lcmp, 1) := by decide +kernel
theorem d_S_isValue_5 : decode b_S_isValue 5 = .ok (.ifCond .lt 15, 3) := by decide +kernel
theorem d_S_isValue_8 : decode b_S_isValue 8 = .ok (.lload_n 0, 1) := by decide +kernel
theorem d_S_isValue_9 : decode b_S_isValue 9 = .ok (.ldc2_w 206, 3) := by decide +kernel
theorem d_S_isValue_12 : decode b_S_isValue 12 = .ok (.lcmp, 1) := by decide +kernel
theorem d_S_isValue_13 : decode b_S_isValue 13 = .ok (.ifCond .gt 7, 3) := by decide +kernel
theorem d_S_isValue_16 : decode b_S_isValue 16 = .ok (.iconst 1, 1) := by decide +kernel
theorem d_S_isValue_17 : decode b_S_isValue 17 = .ok (.goto 4, 3) := by decide +kernel
theorem d_S_isValue_20 : decode b_S_isValue 20 = .ok (.iconst 0, 1) := by decide +kernel
theorem d_S_isValue_21 : decode b_S_isValue 21 = .ok (.ireturn, 1) := by decide +kernel
def F_S_isValue (a0 : Int64) (mm : gM) : Option (Int32 × gM) :=
  if a0 < (-1000000000 : Int64) then (
    some ((0 : Int32), mm))
  else (
    if (1000000000 : Int64) < a0 then (
      some ((0 : Int32), mm))
    else (
      some ((1 : Int32), mm)))
set_option maxHeartbeats 8000000 in
set_option maxRecDepth 100000 in
theorem w_S_isValue {l : Launch} {E : gD} {n0 s0 : Nat} {a0 : Int64} {r : Int32} {mm res : gM} (h : F_S_isValue a0 mm = some (r, res)) : xX l E Y_S_isValue n0 s0 (some (.int r)) res 0 [(0, .inr (.inl a0))] [] mm := by
  unfold F_S_isValue at h
  refine x_lloadn 0 0 d_S_isValue_0 rfl rfl ?_
  refine x_ldc2 1 d_S_isValue_1 (v := (-1000000000 : Int64)) (gT_in1 60 rfl) ?_
  refine x_lc_lt 4 20 d_S_isValue_4 d_S_isValue_5 (by decide) (fun c1 => ?_) (fun c1 => ?_)
  · replace h := gif_t h c1
    refine x_iconst 20 d_S_isValue_20 (v := (0 : Int32)) (by decide +kernel) ?_
    cases h
    exact x_zreturn 21 (by decide) rfl d_S_isValue_21
  · replace h := gif_f h c1
    refine x_lloadn 8 0 d_S_isValue_8 rfl rfl ?_
    refine x_ldc2 9 d_S_isValue_9 (v := (1000000000 : Int64)) (gT_in1 61 rfl) ?_
    refine x_lc_gt 12 20 d_S_isValue_12 d_S_isValue_13 (by decide) (fun c2 => ?_) (fun c2 => ?_)
    · replace h := gif_t h c2
      refine x_iconst 20 d_S_isValue_20 (v := (0 : Int32)) (by decide +kernel) ?_
      cases h
      exact x_zreturn 21 (by decide) rfl d_S_isValue_21
    · replace h := gif_f h c2
      refine x_iconst 16 d_S_isValue_16 (v := (1 : Int32)) (by decide +kernel) ?_
      refine x_goto 17 21 d_S_isValue_17 (by decide) ?_
      cases h
      exact x_zreturn 21 (by decide) rfl d_S_isValue_21
theorem k_S_isValue {a0 : Int64} {r : Int32} {mm res : gM} (h : F_S_isValue a0 mm = some (r, res)) : ∀ (l : Launch) (E : gD), gLe mm res ∧ gMet l E Y_S_isValue y_S_isValue [.inr (.inl a0)] (some (.int r)) mm res :=
  fun l E => ⟨(w_S_isValue (l := l) (E := E) (n0 := 0) (s0 := 0) h).1, x_met (by decide +kernel) rfl rfl rfl (Nat.le_of_ble_eq_true rfl) (w_S_isValue h)⟩
theorem d_S_isDay_0 : decode b_S_isDay 0 = .ok (.iload_n 0, 1) := by decide +kernel
theorem d_S_isDay_1 : decode b_S_isDay 1 = .ok (.ifCond .lt 13, 3) := by decide +kernel
theorem d_S_isDay_4 : decode b_S_isDay 4 = .ok (.iload_n 0, 1) := by decide +kernel
theorem d_S_isDay_5 : decode b_S_isDay 5 = .ok (.ldc 136, 2) := by decide +kernel
theorem d_S_isDay_7 : decode b_S_isDay 7 = .ok (.if_icmp .gt 7, 3) := by decide +kernel
theorem d_S_isDay_10 : decode b_S_isDay 10 = .ok (.iconst 1, 1) := by decide +kernel
theorem d_S_isDay_11 : decode b_S_isDay 11 = .ok (.goto 4, 3) := by decide +kernel
theorem d_S_isDay_14 : decode b_S_isDay 14 = .ok (.iconst 0, 1) := by decide +kernel
theorem d_S_isDay_15 : decode b_S_isDay 15 = .ok (.ireturn, 1) := by decide +kernel
def F_S_isDay (a0 : Int32) (mm : gM) : Option (Int32 × gM) :=
  if a0 < 0 then (
    some ((0 : Int32), mm))
  else (
    if (100000 : Int32) < a0 then (
      some ((0 : Int32), mm))
    else (
      some ((1 : Int32), mm)))
set_option maxHeartbeats 8000000 in
set_option maxRecDepth 100000 in
theorem w_S_isDay {l : Launch} {E : gD} {n0 s0 : Nat} {a0 : Int32} {r : Int32} {mm res : gM} (h : F_S_isDay a0 mm = some (r, res)) : xX l E Y_S_isDay n0 s0 (some (.int r)) res 0 [(0, .inl a0)] [] mm := by
  unfold F_S_isDay at h
  refine x_iloadn 0 0 d_S_isDay_0 rfl rfl ?_
  refine x_if_lt 1 14 d_S_isDay_1 (by decide) (fun c1 => ?_) (fun c1 => ?_)
  · replace h := gif_t h c1
    refine x_iconst 14 d_S_isDay_14 (v := (0 : Int32)) (by decide +kernel) ?_
    cases h
    exact x_zreturn 15 (by decide) rfl d_S_isDay_15
  · replace h := gif_f h c1
    refine x_iloadn 4 0 d_S_isDay_4 rfl rfl ?_
    refine x_ldc 5 d_S_isDay_5 (v := (100000 : Int32)) (gT_in1 65 rfl) ?_
    refine x_icmp_gt 7 14 d_S_isDay_7 (by decide) (fun c2 => ?_) (fun c2 => ?_)
    · replace h := gif_t h c2
      refine x_iconst 14 d_S_isDay_14 (v := (0 : Int32)) (by decide +kernel) ?_
      cases h
      exact x_zreturn 15 (by decide) rfl d_S_isDay_15
    · replace h := gif_f h c2
      refine x_iconst 10 d_S_isDay_10 (v := (1 : Int32)) (by decide +kernel) ?_
      refine x_goto 11 15 d_S_isDay_11 (by decide) ?_
      cases h
      exact x_zreturn 15 (by decide) rfl d_S_isDay_15
theorem k_S_isDay {a0 : Int32} {r : Int32} {mm res : gM} (h : F_S_isDay a0 mm = some (r, res)) : ∀ (l : Launch) (E : gD), gLe mm res ∧ gMet l E Y_S_isDay y_S_isDay [.inl a0] (some (.int r)) mm res :=
  fun l E => ⟨(w_S_isDay (l := l) (E := E) (n0 := 0) (s0 := 0) h).1, x_met (by decide +kernel) rfl rfl rfl (Nat.le_of_ble_eq_true rfl) (w_S_isDay h)⟩
theorem d_Teller_placeOf_0 : decode b_Teller_placeOf 0 = .ok (.iconst 0, 1) := by decide +kernel
theorem d_Teller_placeOf_1 : decode b_Teller_placeOf 1 = .ok (.istore_n 2, 1) := by decide +kernel
theorem d_Teller_placeOf_2 : decode b_Teller_placeOf 2 = .ok (.aload_n 0, 1) := by decide +kernel
theorem d_Teller_placeOf_3 : decode b_Teller_placeOf 3 = .ok (.getfield 12, 3) := by decide +kernel
theorem d_Teller_placeOf_6 : decode b_Teller_placeOf 6 = .ok (.invokevirtual 36, 3) := by decide +kernel
theorem d_Teller_placeOf_9 : decode b_Teller_placeOf 9 = .ok (.istore_n 3, 1) := by decide +kernel
theorem d_Teller_placeOf_10 : decode b_Teller_placeOf 10 = .ok (.iload_n 2, 1) := by decide +kernel
theorem d_Teller_placeOf_11 : decode b_Teller_placeOf 11 = .ok (.iload_n 3, 1) := by decide +kernel
theorem d_Teller_placeOf_12 : decode b_Teller_placeOf 12 = .ok (.if_icmp .ge 43, 3) := by decide +kernel
theorem d_Teller_placeOf_15 : decode b_Teller_placeOf 15 = .ok (.iload_n 2, 1) := by decide +kernel
theorem d_Teller_placeOf_16 : decode b_Teller_placeOf 16 = .ok (.iload_n 3, 1) := by decide +kernel
theorem d_Teller_placeOf_17 : decode b_Teller_placeOf 17 = .ok (.iadd, 1) := by decide +kernel
theorem d_Teller_placeOf_18 : decode b_Teller_placeOf 18 = .ok (.iconst 1, 1) := by decide +kernel
theorem d_Teller_placeOf_19 : decode b_Teller_placeOf 19 = .ok (.iushr, 1) := by decide +kernel
theorem d_Teller_placeOf_20 : decode b_Teller_placeOf 20 = .ok (.istore 4, 2) := by decide +kernel
theorem d_Teller_placeOf_22 : decode b_Teller_placeOf 22 = .ok (.aload_n 0, 1) := by decide +kernel
theorem d_Teller_placeOf_23 : decode b_Teller_placeOf 23 = .ok (.getfield 12, 3) := by decide +kernel
theorem d_Teller_placeOf_26 : decode b_Teller_placeOf 26 = .ok (.iload 4, 2) := by decide +kernel
theorem d_Teller_placeOf_28 : decode b_Teller_placeOf 28 = .ok (.invokevirtual 40, 3) := by decide +kernel
theorem d_Teller_placeOf_31 : decode b_Teller_placeOf 31 = .ok (.checkcast 44, 3) := by decide +kernel
theorem d_Teller_placeOf_34 : decode b_Teller_placeOf 34 = .ok (.getfield 46, 3) := by decide +kernel
theorem d_Teller_placeOf_37 : decode b_Teller_placeOf 37 = .ok (.iload_n 1, 1) := by decide +kernel
theorem d_Teller_placeOf_38 : decode b_Teller_placeOf 38 = .ok (.if_icmp .ge 11, 3) := by decide +kernel
theorem d_Teller_placeOf_41 : decode b_Teller_placeOf 41 = .ok (.iload 4, 2) := by decide +kernel
theorem d_Teller_placeOf_43 : decode b_Teller_placeOf 43 = .ok (.iconst 1, 1) := by decide +kernel
theorem d_Teller_placeOf_44 : decode b_Teller_placeOf 44 = .ok (.iadd, 1) := by decide +kernel
theorem d_Teller_placeOf_45 : decode b_Teller_placeOf 45 = .ok (.istore_n 2, 1) := by decide +kernel
theorem d_Teller_placeOf_46 : decode b_Teller_placeOf 46 = .ok (.goto 6, 3) := by decide +kernel
theorem d_Teller_placeOf_49 : decode b_Teller_placeOf 49 = .ok (.iload 4, 2) := by decide +kernel
theorem d_Teller_placeOf_51 : decode b_Teller_placeOf 51 = .ok (.istore_n 3, 1) := by decide +kernel
theorem d_Teller_placeOf_52 : decode b_Teller_placeOf 52 = .ok (.goto (-42), 3) := by decide +kernel
theorem d_Teller_placeOf_55 : decode b_Teller_placeOf 55 = .ok (.iload_n 2, 1) := by decide +kernel
theorem d_Teller_placeOf_56 : decode b_Teller_placeOf 56 = .ok (.ireturn, 1) := by decide +kernel
def L_Teller_placeOf_10 (k55 : Int32 → gM → Option (Int32 × gM)) : Nat → Option Nat → Int32 → Int32 → Int32 → gM → Option (Int32 × gM)
  | 0, _, _, _, _, _ => none
  | f + 1, p0, p1, p2, p3, mm =>
    if p3 ≤ p2 then (
      k55 p2 mm)
    else (
      gLet ((((p2 + p3)).toUInt32 >>> (((1 : Int32)).toUInt32 &&& Int32.toUInt32 31)).toInt32) fun x9 =>
      gb1 (gfR 1 0 p0 mm) fun v10 =>
      gb1 (grc 9 v10 mm) fun b15 =>
      gb2 (F_AL_get b15 x9 mm) fun v12 mm13 =>
      gb1 (gcs 7 v12 mm13) fun u17 =>
      gb1 (gfI 7 2 v12 mm13) fun v19 =>
      if p1 ≤ v19 then (
        L_Teller_placeOf_10 k55 f p0 p1 p2 x9 mm13)
      else (
        gLet (x9 + (1 : Int32)) fun x22 =>
        L_Teller_placeOf_10 k55 f p0 p1 x22 p3 mm13))
set_option maxHeartbeats 4000000 in
set_option maxRecDepth 100000 in
theorem wL_Teller_placeOf_10 {l : Launch} {E : gD} {n0 s0 : Nat} {r : Int32} {res : gM} {k55 : Int32 → gM → Option (Int32 × gM)} (hk55 : ∀ (p2 : Int32) (mm : gM), k55 p2 mm = some (r, res) → xX l E Y_Teller_placeOf n0 s0 (some (.int r)) res 55 [(2, .inl p2)] [] mm) : ∀ (f : Nat) (p0 : Option Nat) (p1 : Int32) (p2 : Int32) (p3 : Int32) (mm : gM), L_Teller_placeOf_10 k55 f p0 p1 p2 p3 mm = some (r, res) → xX l E Y_Teller_placeOf n0 s0 (some (.int r)) res 10 [(0, .inr (.inr p0)), (1, .inl p1), (2, .inl p2), (3, .inl p3)] [] mm := by
  intro f
  induction f with
  | zero =>
    intro p0 p1 p2 p3 mm h
    rw [L_Teller_placeOf_10] at h
    cases h
  | succ f ih =>
    intro p0 p1 p2 p3 mm h
    rw [L_Teller_placeOf_10] at h
    refine x_iloadn 10 2 d_Teller_placeOf_10 rfl rfl ?_
    refine x_iloadn 11 3 d_Teller_placeOf_11 rfl rfl ?_
    refine x_icmp_ge 12 55 d_Teller_placeOf_12 (by decide) (fun c8 => ?_) (fun c8 => ?_)
    · replace h := gif_t h c8
      refine x_sub [2] rfl ?_
      exact hk55 _ _ h
    · replace h := gif_f h c8
      refine x_iloadn 15 2 d_Teller_placeOf_15 rfl rfl ?_
      refine x_iloadn 16 3 d_Teller_placeOf_16 rfl rfl ?_
      refine x_iadd 17 d_Teller_placeOf_17 ?_
      refine x_iconst 18 d_Teller_placeOf_18 (v := (1 : Int32)) (by decide +kernel) ?_
      refine x_iushr 19 d_Teller_placeOf_19 ?_
      replace h := gLet_elim h; obtain ⟨x9, ex9, h⟩ := h
      refine x_topi ex9 ?_
      refine x_istore 20 (lv' := [(4, .inl x9), (0, .inr (.inr p0)), (1, .inl p1), (2, .inl p2), (3, .inl p3)]) d_Teller_placeOf_20 (by decide) rfl ?_
      refine x_aloadn 22 1 d_Teller_placeOf_22 rfl rfl ?_
      replace h := gb1_elim h; obtain ⟨v10, h11, h⟩ := h
      refine x_getR 23 h11 fl_Teller_12 d_Teller_placeOf_23 ?_
      refine x_iload 26 0 d_Teller_placeOf_26 rfl ?_
      replace h := gb1_elim h; obtain ⟨b15, h16, h⟩ := h
      replace h := gb2_elim h; obtain ⟨v12, mm13, h14, h⟩ := h
      refine x_callV 28 1 (as := [.inl x9]) (st' := []) (rs := [.inr (.inr v12)]) (k_AL_get h14) rfl cf_Teller_40 ⟨rfl, by decide +kernel, by decide, by decide, Nat.le_of_ble_eq_true rfl⟩ h16 rfl d_Teller_placeOf_28 ?_
      replace h := gb1_elim h; obtain ⟨u17, h18, h⟩ := h
      refine x_cast 31 h18 (show gCl[7]? = some (R_Telling, T_Telling, 7) from rfl) (gT_in1 75 rfl) d_Teller_placeOf_31 ?_
      replace h := gb1_elim h; obtain ⟨v19, h20, h⟩ := h
      refine x_getI 34 h20 fl_Teller_46 d_Teller_placeOf_34 ?_
      refine x_iloadn 37 2 d_Teller_placeOf_37 rfl rfl ?_
      refine x_icmp_ge 38 49 d_Teller_placeOf_38 (by decide) (fun c21 => ?_) (fun c21 => ?_)
      · replace h := gif_t h c21
        refine x_iload 49 0 d_Teller_placeOf_49 rfl ?_
        refine x_istoren 51 (lv' := [(3, .inl x9), (4, .inl x9), (0, .inr (.inr p0)), (1, .inl p1), (2, .inl p2)]) d_Teller_placeOf_51 rfl (by decide) rfl ?_
        refine x_goto 52 10 d_Teller_placeOf_52 (by decide) ?_
        refine x_sub [2, 3, 4, 0] rfl ?_
        exact ih _ _ _ _ _ h
      · replace h := gif_f h c21
        refine x_iload 41 0 d_Teller_placeOf_41 rfl ?_
        refine x_iconst 43 d_Teller_placeOf_43 (v := (1 : Int32)) (by decide +kernel) ?_
        refine x_iadd 44 d_Teller_placeOf_44 ?_
        replace h := gLet_elim h; obtain ⟨x22, ex22, h⟩ := h
        refine x_topi ex22 ?_
        refine x_istoren 45 (lv' := [(2, .inl x22), (4, .inl x9), (0, .inr (.inr p0)), (1, .inl p1), (3, .inl p3)]) d_Teller_placeOf_45 rfl (by decide) rfl ?_
        refine x_goto 46 52 d_Teller_placeOf_46 (by decide) ?_
        refine x_goto 52 10 d_Teller_placeOf_52 (by decide) ?_
        refine x_sub [2, 3, 0, 4] rfl ?_
        exact ih _ _ _ _ _ h
def F_Teller_placeOf (b : Nat) (a0 : Int32) (mm : gM) : Option (Int32 × gM) :=
  gb1 (gfR 1 0 (some b) mm) fun v1 =>
  gb1 (grc 9 v1 mm) fun b6 =>
  gb2 (F_AL_size b6  mm) fun v3 mm4 =>
  L_Teller_placeOf_10 (fun p2 mm =>
    some (p2, mm)) gF (some b) a0 (0 : Int32) v3 mm4
set_option maxHeartbeats 8000000 in
set_option maxRecDepth 100000 in
theorem w_Teller_placeOf {l : Launch} {E : gD} {n0 s0 : Nat} {b : Nat} {a0 : Int32} {r : Int32} {mm res : gM} (h : F_Teller_placeOf b a0 mm = some (r, res)) : xX l E Y_Teller_placeOf n0 s0 (some (.int r)) res 0 [(0, .inr (.inr (some b))), (1, .inl a0)] [] mm := by
  unfold F_Teller_placeOf at h
  refine x_iconst 0 d_Teller_placeOf_0 (v := (0 : Int32)) (by decide +kernel) ?_
  refine x_istoren 1 (lv' := [(2, .inl (0 : Int32)), (0, .inr (.inr (some b))), (1, .inl a0)]) d_Teller_placeOf_1 rfl (by decide) rfl ?_
  refine x_aloadn 2 1 d_Teller_placeOf_2 rfl rfl ?_
  replace h := gb1_elim h; obtain ⟨v1, h2, h⟩ := h
  refine x_getR 3 h2 fl_Teller_12 d_Teller_placeOf_3 ?_
  replace h := gb1_elim h; obtain ⟨b6, h7, h⟩ := h
  replace h := gb2_elim h; obtain ⟨v3, mm4, h5, h⟩ := h
  refine x_callV 6 0 (as := []) (st' := []) (rs := [.inl v3]) (k_AL_size h5) rfl cf_Teller_36 ⟨rfl, by decide +kernel, by decide, by decide, Nat.le_of_ble_eq_true rfl⟩ h7 rfl d_Teller_placeOf_6 ?_
  refine x_istoren 9 (lv' := [(3, .inl v3), (2, .inl (0 : Int32)), (0, .inr (.inr (some b))), (1, .inl a0)]) d_Teller_placeOf_9 rfl (by decide) rfl ?_
  refine x_sub [2, 3, 1, 0] rfl ?_
  refine wL_Teller_placeOf_10 ?_ gF _ _ _ _ _ h
  · intro p2 mm h
    refine x_iloadn 55 0 d_Teller_placeOf_55 rfl rfl ?_
    cases h
    exact x_ireturn 56 rfl d_Teller_placeOf_56
theorem k_Teller_placeOf {b : Nat} {a0 : Int32} {r : Int32} {mm res : gM} (h : F_Teller_placeOf b a0 mm = some (r, res)) : ∀ (l : Launch) (E : gD), gLe mm res ∧ gMet l E Y_Teller_placeOf y_Teller_placeOf [.inr (.inr (some b)), .inl a0] (some (.int r)) mm res :=
  fun l E => ⟨(w_Teller_placeOf (l := l) (E := E) (n0 := 0) (s0 := 0) h).1, x_met (by decide +kernel) rfl rfl rfl (Nat.le_of_ble_eq_true rfl) (w_Teller_placeOf h)⟩
