-- S_seen M_seen Blocks_firstFrom Blocks_add
theorem d_S_seen_0 : decode b_S_seen 0 = .ok (.aload_n 0, 1) := by decide +kernel
theorem d_S_seen_1 : decode b_S_seen 1 = .ok (.iload_n 2, 1) := by decide +kernel
theorem d_S_seen_2 : decode b_S_seen 2 = .ok (.invokevirtual 110, 3) := by decide +kernel
theorem d_S_seen_5 : decode b_S_seen 5 = .ok (.astore 5, 2) := by decide +kernel
theorem d_S_seen_7 : decode b_S_seen 7 = .ok (.iload_n 3, 1) := by decide +kernel
theorem d_S_seen_8 : decode b_S_seen 8 = .ok (.iload 4, 2) := by decide +kernel
theorem d_S_seen_10 : decode b_S_seen 10 = .ok (.invokestatic 60, 3) := by decide +kernel
theorem d_S_seen_13 : decode b_S_seen 13 = .ok (.istore 6, 2) := by decide +kernel
theorem d_S_seen_15 : decode b_S_seen 15 = .ok (.aload 5, 2) := by decide +kernel
theorem d_S_seen_17 : decode b_S_seen 17 = .ok (.ifnull 31, 3) := by decide +kernel
theorem d_S_seen_20 : decode b_S_seen 20 = .ok (.iload 6, 2) := by decide +kernel
theorem d_S_seen_22 : decode b_S_seen 22 = .ok (.iconst (-1), 1) := by decide +kernel
theorem d_S_seen_23 : decode b_S_seen 23 = .ok (.if_icmp .eq 25, 3) := by decide +kernel
theorem d_S_seen_26 : decode b_S_seen 26 = .ok (.iload_n 1, 1) := by decide +kernel
theorem d_S_seen_27 : decode b_S_seen 27 = .ok (.invokestatic 165, 3) := by decide +kernel
theorem d_S_seen_30 : decode b_S_seen 30 = .ok (.ifCond .eq 18, 3) := by decide +kernel
theorem d_S_seen_33 : decode b_S_seen 33 = .ok (.aload_n 0, 1) := by decide +kernel
theorem d_S_seen_34 : decode b_S_seen 34 = .ok (.getfield 30, 3) := by decide +kernel
theorem d_S_seen_37 : decode b_S_seen 37 = .ok (.iload_n 1, 1) := by decide +kernel
theorem d_S_seen_38 : decode b_S_seen 38 = .ok (.bipush 8, 2) := by decide +kernel
theorem d_S_seen_40 : decode b_S_seen 40 = .ok (.imul, 1) := by decide +kernel
theorem d_S_seen_41 : decode b_S_seen 41 = .ok (.iload 4, 2) := by decide +kernel
theorem d_S_seen_43 : decode b_S_seen 43 = .ok (.iadd, 1) := by decide +kernel
theorem d_S_seen_44 : decode b_S_seen 44 = .ok (.baload, 1) := by decide +kernel
theorem d_S_seen_45 : decode b_S_seen 45 = .ok (.ifCond .ne 7, 3) := by decide +kernel
theorem d_S_seen_48 : decode b_S_seen 48 = .ok (.ldc2_w 126, 3) := by decide +kernel
theorem d_S_seen_51 : decode b_S_seen 51 = .ok (.lreturn, 1) := by decide +kernel
theorem d_S_seen_52 : decode b_S_seen 52 = .ok (.aload_n 0, 1) := by decide +kernel
theorem d_S_seen_53 : decode b_S_seen 53 = .ok (.aload 5, 2) := by decide +kernel
theorem d_S_seen_55 : decode b_S_seen 55 = .ok (.getfield 156, 3) := by decide +kernel
theorem d_S_seen_58 : decode b_S_seen 58 = .ok (.ifCond .eq 11, 3) := by decide +kernel
theorem d_S_seen_61 : decode b_S_seen 61 = .ok (.aload 5, 2) := by decide +kernel
theorem d_S_seen_63 : decode b_S_seen 63 = .ok (.getfield 159, 3) := by decide +kernel
theorem d_S_seen_66 : decode b_S_seen 66 = .ok (.goto 8, 3) := by decide +kernel
theorem d_S_seen_69 : decode b_S_seen 69 = .ok (.aload 5, 2) := by decide +kernel
theorem d_S_seen_71 : decode b_S_seen 71 = .ok (.getfield 100, 3) := by decide +kernel
theorem d_S_seen_74 : decode b_S_seen 74 = .ok (.iload 6, 2) := by decide +kernel
theorem d_S_seen_76 : decode b_S_seen 76 = .ok (.ldc 136, 2) := by decide +kernel
theorem d_S_seen_78 : decode b_S_seen 78 = .ok (.invokevirtual 128, 3) := by decide +kernel
theorem d_S_seen_81 : decode b_S_seen 81 = .ok (.lreturn, 1) := by decide +kernel
def F_S_seen (b : Nat) (a0 : Int32) (a1 : Int32) (a2 : Int32) (a3 : Int32) (mm : gM) : Option (Int64 × gM) :=
  gb1 (grc 0 (some b) mm) fun b4 =>
  gb2 (F_S_setAt b4 a1 mm) fun v1 mm2 =>
  gb2 (F_S_cellOf a2 a3 mm2) fun v6 mm7 =>
  if v1 = none then (
    some ((-9223372036854775808 : Int64), mm7))
  else (
    if v6 = (-1 : Int32) then (
      some ((-9223372036854775808 : Int64), mm7))
    else (
      gb2 (F_S_isPerson a0 mm7) fun v11 mm12 =>
      if v11 = 0 then (
        some ((-9223372036854775808 : Int64), mm12))
      else (
        gb1 (gfR 0 4 (some b) mm12) fun v15 =>
        gb1 (gaI 2 v15 ((a0 * (8 : Int32)) + a3) mm12) fun v17 =>
        if v17 = 0 then (
          some ((-9223372036854775808 : Int64), mm12))
        else (
          gb1 (gfI 4 2 v1 mm12) fun v20 =>
          if v20 = 0 then (
            gb1 (gfR 4 0 v1 mm12) fun v23 =>
            gb1 (grc 0 (some b) mm12) fun b28 =>
            gb2 (F_S_valueOn b28 v23 v6 (100000 : Int32) mm12) fun v25 mm26 =>
            some (v25, mm26))
          else (
            gb1 (gfR 4 1 v1 mm12) fun v30 =>
            gb1 (grc 0 (some b) mm12) fun b35 =>
            gb2 (F_S_valueOn b35 v30 v6 (100000 : Int32) mm12) fun v32 mm33 =>
            some (v32, mm33))))))
set_option maxHeartbeats 8000000 in
set_option maxRecDepth 100000 in
theorem w_S_seen {l : Launch} {E : gD} {n0 s0 : Nat} {b : Nat} {a0 : Int32} {a1 : Int32} {a2 : Int32} {a3 : Int32} {r : Int64} {mm res : gM} (h : F_S_seen b a0 a1 a2 a3 mm = some (r, res)) : xX l E Y_S_seen n0 s0 (some (.long r)) res 0 [(0, .inr (.inr (some b))), (1, .inl a0), (2, .inl a1), (3, .inl a2), (4, .inl a3)] [] mm := by
  unfold F_S_seen at h
  refine x_aloadn 0 0 d_S_seen_0 rfl rfl ?_
  refine x_iloadn 1 2 d_S_seen_1 rfl rfl ?_
  replace h := gb1_elim h; obtain ⟨b4, h5, h⟩ := h
  replace h := gb2_elim h; obtain ⟨v1, mm2, h3, h⟩ := h
  refine x_callV 2 1 (as := [.inl a1]) (st' := []) (rs := [.inr (.inr v1)]) (k_S_setAt h3) rfl cf_S_110 ⟨rfl, by decide +kernel, by decide, by decide, Nat.le_of_ble_eq_true rfl⟩ h5 rfl d_S_seen_2 ?_
  refine x_astore 5 (lv' := [(5, .inr (.inr v1)), (0, .inr (.inr (some b))), (1, .inl a0), (2, .inl a1), (3, .inl a2), (4, .inl a3)]) d_S_seen_5 (by decide) rfl ?_
  refine x_iloadn 7 4 d_S_seen_7 rfl rfl ?_
  refine x_iload 8 5 d_S_seen_8 rfl ?_
  replace h := gb2_elim h; obtain ⟨v6, mm7, h8, h⟩ := h
  refine x_callS 10 2 (as := [.inl a2, .inl a3]) (st' := []) (rs := [.inl v6]) (k_S_cellOf h8) rfl cf_S_60 ⟨rfl, by decide +kernel, by decide, by decide, Nat.le_of_ble_eq_true rfl⟩ rfl d_S_seen_10 ?_
  refine x_istore 13 (lv' := [(6, .inl v6), (5, .inr (.inr v1)), (0, .inr (.inr (some b))), (1, .inl a0), (2, .inl a1), (3, .inl a2), (4, .inl a3)]) d_S_seen_13 (by decide) rfl ?_
  refine x_aload 15 1 d_S_seen_15 rfl ?_
  refine x_ifnull 17 48 d_S_seen_17 (by decide) (fun c9 => ?_) (fun c9 => ?_)
  · replace h := gif_t h c9
    refine x_ldc2 48 d_S_seen_48 (v := (-9223372036854775808 : Int64)) (gT_in2 33 rfl) ?_
    cases h
    exact x_lreturn 51 rfl d_S_seen_51
  · replace h := gif_f h c9
    refine x_iload 20 0 d_S_seen_20 rfl ?_
    refine x_iconst 22 d_S_seen_22 (v := (-1 : Int32)) (by decide +kernel) ?_
    refine x_icmp_eq 23 48 d_S_seen_23 (by decide) (fun c10 => ?_) (fun c10 => ?_)
    · replace h := gif_t h c10
      refine x_ldc2 48 d_S_seen_48 (v := (-9223372036854775808 : Int64)) (gT_in2 33 rfl) ?_
      cases h
      exact x_lreturn 51 rfl d_S_seen_51
    · replace h := gif_f h c10
      refine x_iloadn 26 3 d_S_seen_26 rfl rfl ?_
      replace h := gb2_elim h; obtain ⟨v11, mm12, h13, h⟩ := h
      refine x_callS 27 1 (as := [.inl a0]) (st' := []) (rs := [.inl v11]) (k_S_isPerson h13) rfl cf_S_165 ⟨rfl, by decide +kernel, by decide, by decide, Nat.le_of_ble_eq_true rfl⟩ rfl d_S_seen_27 ?_
      refine x_if_eq 30 48 d_S_seen_30 (by decide) (fun c14 => ?_) (fun c14 => ?_)
      · replace h := gif_t h c14
        refine x_ldc2 48 d_S_seen_48 (v := (-9223372036854775808 : Int64)) (gT_in2 33 rfl) ?_
        cases h
        exact x_lreturn 51 rfl d_S_seen_51
      · replace h := gif_f h c14
        refine x_aloadn 33 2 d_S_seen_33 rfl rfl ?_
        replace h := gb1_elim h; obtain ⟨v15, h16, h⟩ := h
        refine x_getR 34 h16 fl_S_30 d_S_seen_34 ?_
        refine x_iloadn 37 3 d_S_seen_37 rfl rfl ?_
        refine x_bipush 38 d_S_seen_38 (v := (8 : Int32)) (by decide +kernel) ?_
        refine x_imul 40 d_S_seen_40 ?_
        refine x_iload 41 6 d_S_seen_41 rfl ?_
        refine x_iadd 43 d_S_seen_43 ?_
        replace h := gb1_elim h; obtain ⟨v17, h18, h⟩ := h
        refine x_zald 44 rfl h18 d_S_seen_44 ?_
        refine x_if_ne 45 52 d_S_seen_45 (by decide) (fun c19 => ?_) (fun c19 => ?_)
        · replace h := gif_t h c19
          refine x_ldc2 48 d_S_seen_48 (v := (-9223372036854775808 : Int64)) (gT_in2 33 rfl) ?_
          cases h
          exact x_lreturn 51 rfl d_S_seen_51
        · replace h := gif_f h c19
          refine x_aloadn 52 2 d_S_seen_52 rfl rfl ?_
          refine x_aload 53 1 d_S_seen_53 rfl ?_
          replace h := gb1_elim h; obtain ⟨v20, h21, h⟩ := h
          refine x_getI 55 h21 fl_S_156 d_S_seen_55 ?_
          refine x_if_eq 58 69 d_S_seen_58 (by decide) (fun c22 => ?_) (fun c22 => ?_)
          · replace h := gif_t h c22
            refine x_aload 69 1 d_S_seen_69 rfl ?_
            replace h := gb1_elim h; obtain ⟨v23, h24, h⟩ := h
            refine x_getR 71 h24 fl_S_100 d_S_seen_71 ?_
            refine x_iload 74 0 d_S_seen_74 rfl ?_
            refine x_ldc 76 d_S_seen_76 (v := (100000 : Int32)) (gT_in1 65 rfl) ?_
            replace h := gb1_elim h; obtain ⟨b28, h29, h⟩ := h
            replace h := gb2_elim h; obtain ⟨v25, mm26, h27, h⟩ := h
            refine x_callV 78 3 (as := [.inr (.inr v23), .inl v6, .inl (100000 : Int32)]) (st' := []) (rs := [.inr (.inl v25)]) (k_S_valueOn h27) rfl cf_S_128 ⟨rfl, by decide +kernel, by decide, by decide, Nat.le_of_ble_eq_true rfl⟩ h29 rfl d_S_seen_78 ?_
            cases h
            exact x_lreturn 81 rfl d_S_seen_81
          · replace h := gif_f h c22
            refine x_aload 61 1 d_S_seen_61 rfl ?_
            replace h := gb1_elim h; obtain ⟨v30, h31, h⟩ := h
            refine x_getR 63 h31 fl_S_159 d_S_seen_63 ?_
            refine x_goto 66 74 d_S_seen_66 (by decide) ?_
            refine x_iload 74 0 d_S_seen_74 rfl ?_
            refine x_ldc 76 d_S_seen_76 (v := (100000 : Int32)) (gT_in1 65 rfl) ?_
            replace h := gb1_elim h; obtain ⟨b35, h36, h⟩ := h
            replace h := gb2_elim h; obtain ⟨v32, mm33, h34, h⟩ := h
            refine x_callV 78 3 (as := [.inr (.inr v30), .inl v6, .inl (100000 : Int32)]) (st' := []) (rs := [.inr (.inl v32)]) (k_S_valueOn h34) rfl cf_S_128 ⟨rfl, by decide +kernel, by decide, by decide, Nat.le_of_ble_eq_true rfl⟩ h36 rfl d_S_seen_78 ?_
            cases h
            exact x_lreturn 81 rfl d_S_seen_81
theorem k_S_seen {b : Nat} {a0 : Int32} {a1 : Int32} {a2 : Int32} {a3 : Int32} {r : Int64} {mm res : gM} (h : F_S_seen b a0 a1 a2 a3 mm = some (r, res)) : ∀ (l : Launch) (E : gD), gLe mm res ∧ gMet l E Y_S_seen y_S_seen [.inr (.inr (some b)), .inl a0, .inl a1, .inl a2, .inl a3] (some (.long r)) mm res :=
  fun l E => ⟨(w_S_seen (l := l) (E := E) (n0 := 0) (s0 := 0) h).1, x_met (by decide +kernel) rfl rfl rfl (Nat.le_of_ble_eq_true rfl) (w_S_seen h)⟩
theorem d_M_seen_0 : decode b_M_seen 0 = .ok (.iload_n 1, 1) := by decide +kernel
theorem d_M_seen_1 : decode b_M_seen 1 = .ok (.i2l, 1) := by decide +kernel
theorem d_M_seen_2 : decode b_M_seen 2 = .ok (.lconst 0, 1) := by decide +kernel
theorem d_M_seen_3 : decode b_M_seen 3 = .ok (.ldc2_w 145, 3) := by decide +kernel
theorem d_M_seen_6 : decode b_M_seen 6 = .ok (.invokestatic 98, 3) := by decide +kernel
theorem d_M_seen_9 : decode b_M_seen 9 = .ok (.ifCond .eq 39, 3) := by decide +kernel
theorem d_M_seen_12 : decode b_M_seen 12 = .ok (.iload 4, 2) := by decide +kernel
theorem d_M_seen_14 : decode b_M_seen 14 = .ok (.i2l, 1) := by decide +kernel
theorem d_M_seen_15 : decode b_M_seen 15 = .ok (.lconst 0, 1) := by decide +kernel
theorem d_M_seen_16 : decode b_M_seen 16 = .ok (.ldc2_w 104, 3) := by decide +kernel
theorem d_M_seen_19 : decode b_M_seen 19 = .ok (.invokestatic 98, 3) := by decide +kernel
theorem d_M_seen_22 : decode b_M_seen 22 = .ok (.ifCond .eq 26, 3) := by decide +kernel
theorem d_M_seen_25 : decode b_M_seen 25 = .ok (.aload_n 0, 1) := by decide +kernel
theorem d_M_seen_26 : decode b_M_seen 26 = .ok (.iload_n 2, 1) := by decide +kernel
theorem d_M_seen_27 : decode b_M_seen 27 = .ok (.invokevirtual 133, 3) := by decide +kernel
theorem d_M_seen_30 : decode b_M_seen 30 = .ok (.ifCond .eq 18, 3) := by decide +kernel
theorem d_M_seen_33 : decode b_M_seen 33 = .ok (.aload_n 0, 1) := by decide +kernel
theorem d_M_seen_34 : decode b_M_seen 34 = .ok (.getfield 54, 3) := by decide +kernel
theorem d_M_seen_37 : decode b_M_seen 37 = .ok (.bipush 8, 2) := by decide +kernel
theorem d_M_seen_39 : decode b_M_seen 39 = .ok (.iload_n 1, 1) := by decide +kernel
theorem d_M_seen_40 : decode b_M_seen 40 = .ok (.imul, 1) := by decide +kernel
theorem d_M_seen_41 : decode b_M_seen 41 = .ok (.iload 4, 2) := by decide +kernel
theorem d_M_seen_43 : decode b_M_seen 43 = .ok (.iadd, 1) := by decide +kernel
theorem d_M_seen_44 : decode b_M_seen 44 = .ok (.baload, 1) := by decide +kernel
theorem d_M_seen_45 : decode b_M_seen 45 = .ok (.ifCond .ne 7, 3) := by decide +kernel
theorem d_M_seen_48 : decode b_M_seen 48 = .ok (.ldc2_w 124, 3) := by decide +kernel
theorem d_M_seen_51 : decode b_M_seen 51 = .ok (.lreturn, 1) := by decide +kernel
theorem d_M_seen_52 : decode b_M_seen 52 = .ok (.aload_n 0, 1) := by decide +kernel
theorem d_M_seen_53 : decode b_M_seen 53 = .ok (.aload_n 0, 1) := by decide +kernel
theorem d_M_seen_54 : decode b_M_seen 54 = .ok (.getfield 39, 3) := by decide +kernel
theorem d_M_seen_57 : decode b_M_seen 57 = .ok (.iload_n 2, 1) := by decide +kernel
theorem d_M_seen_58 : decode b_M_seen 58 = .ok (.baload, 1) := by decide +kernel
theorem d_M_seen_59 : decode b_M_seen 59 = .ok (.ifCond .eq 10, 3) := by decide +kernel
theorem d_M_seen_62 : decode b_M_seen 62 = .ok (.bipush 12, 2) := by decide +kernel
theorem d_M_seen_64 : decode b_M_seen 64 = .ok (.iload_n 2, 1) := by decide +kernel
theorem d_M_seen_65 : decode b_M_seen 65 = .ok (.iadd, 1) := by decide +kernel
theorem d_M_seen_66 : decode b_M_seen 66 = .ok (.goto 4, 3) := by decide +kernel
theorem d_M_seen_69 : decode b_M_seen 69 = .ok (.iload_n 2, 1) := by decide +kernel
theorem d_M_seen_70 : decode b_M_seen 70 = .ok (.iload_n 3, 1) := by decide +kernel
theorem d_M_seen_71 : decode b_M_seen 71 = .ok (.iload 4, 2) := by decide +kernel
theorem d_M_seen_73 : decode b_M_seen 73 = .ok (.ldc 140, 2) := by decide +kernel
theorem d_M_seen_75 : decode b_M_seen 75 = .ok (.invokevirtual 136, 3) := by decide +kernel
theorem d_M_seen_78 : decode b_M_seen 78 = .ok (.lreturn, 1) := by decide +kernel
def F_M_seen (b : Nat) (a0 : Int32) (a1 : Int32) (a2 : Int32) (a3 : Int32) (mm : gM) : Option (Int64 × gM) :=
  gb2 (F_M_isIn (a0).toInt64 (0 : Int64) (9 : Int64) mm) fun v1 mm2 =>
  if v1 = 0 then (
    some ((-9223372036854775808 : Int64), mm2))
  else (
    gb2 (F_M_isIn (a3).toInt64 (0 : Int64) (7 : Int64) mm2) fun v5 mm6 =>
    if v5 = 0 then (
      some ((-9223372036854775808 : Int64), mm6))
    else (
      gb1 (grc 10 (some b) mm6) fun b12 =>
      gb2 (F_M_isSet b12 a1 mm6) fun v9 mm10 =>
      if v9 = 0 then (
        some ((-9223372036854775808 : Int64), mm10))
      else (
        gb1 (gfR 10 18 (some b) mm10) fun v15 =>
        gb1 (gaI 2 v15 (((8 : Int32) * a0) + a3) mm10) fun v17 =>
        if v17 = 0 then (
          some ((-9223372036854775808 : Int64), mm10))
        else (
          gb1 (gfR 10 12 (some b) mm10) fun v20 =>
          gb1 (gaI 2 v20 a1 mm10) fun v22 =>
          if v22 = 0 then (
            gb1 (grc 10 (some b) mm10) fun b28 =>
            gb2 (F_M_valueOf b28 a1 a2 a3 (100000 : Int32) mm10) fun v25 mm26 =>
            some (v25, mm26))
          else (
            gb1 (grc 10 (some b) mm10) fun b33 =>
            gb2 (F_M_valueOf b33 ((12 : Int32) + a1) a2 a3 (100000 : Int32) mm10) fun v30 mm31 =>
            some (v30, mm31))))))
set_option maxHeartbeats 8000000 in
set_option maxRecDepth 100000 in
theorem w_M_seen {l : Launch} {E : gD} {n0 s0 : Nat} {b : Nat} {a0 : Int32} {a1 : Int32} {a2 : Int32} {a3 : Int32} {r : Int64} {mm res : gM} (h : F_M_seen b a0 a1 a2 a3 mm = some (r, res)) : xX l E Y_M_seen n0 s0 (some (.long r)) res 0 [(0, .inr (.inr (some b))), (1, .inl a0), (2, .inl a1), (3, .inl a2), (4, .inl a3)] [] mm := by
  unfold F_M_seen at h
  refine x_iloadn 0 1 d_M_seen_0 rfl rfl ?_
  refine x_i2l 1 d_M_seen_1 ?_
  refine x_lconst 2 d_M_seen_2 (v := (0 : Int64)) (by decide +kernel) ?_
  refine x_ldc2 3 d_M_seen_3 (v := (9 : Int64)) (gT_in4 50 rfl) ?_
  replace h := gb2_elim h; obtain ⟨v1, mm2, h3, h⟩ := h
  refine x_callS 6 3 (as := [.inr (.inl (a0).toInt64), .inr (.inl (0 : Int64)), .inr (.inl (9 : Int64))]) (st' := []) (rs := [.inl v1]) (k_M_isIn h3) rfl cf_M_98 ⟨rfl, by decide +kernel, by decide, by decide, Nat.le_of_ble_eq_true rfl⟩ rfl d_M_seen_6 ?_
  refine x_if_eq 9 48 d_M_seen_9 (by decide) (fun c4 => ?_) (fun c4 => ?_)
  · replace h := gif_t h c4
    refine x_ldc2 48 d_M_seen_48 (v := (-9223372036854775808 : Int64)) (gT_in4 14 rfl) ?_
    cases h
    exact x_lreturn 51 rfl d_M_seen_51
  · replace h := gif_f h c4
    refine x_iload 12 4 d_M_seen_12 rfl ?_
    refine x_i2l 14 d_M_seen_14 ?_
    refine x_lconst 15 d_M_seen_15 (v := (0 : Int64)) (by decide +kernel) ?_
    refine x_ldc2 16 d_M_seen_16 (v := (7 : Int64)) (gT_in3 133 rfl) ?_
    replace h := gb2_elim h; obtain ⟨v5, mm6, h7, h⟩ := h
    refine x_callS 19 3 (as := [.inr (.inl (a3).toInt64), .inr (.inl (0 : Int64)), .inr (.inl (7 : Int64))]) (st' := []) (rs := [.inl v5]) (k_M_isIn h7) rfl cf_M_98 ⟨rfl, by decide +kernel, by decide, by decide, Nat.le_of_ble_eq_true rfl⟩ rfl d_M_seen_19 ?_
    refine x_if_eq 22 48 d_M_seen_22 (by decide) (fun c8 => ?_) (fun c8 => ?_)
    · replace h := gif_t h c8
      refine x_ldc2 48 d_M_seen_48 (v := (-9223372036854775808 : Int64)) (gT_in4 14 rfl) ?_
      cases h
      exact x_lreturn 51 rfl d_M_seen_51
    · replace h := gif_f h c8
      refine x_aloadn 25 0 d_M_seen_25 rfl rfl ?_
      refine x_iloadn 26 2 d_M_seen_26 rfl rfl ?_
      replace h := gb1_elim h; obtain ⟨b12, h13, h⟩ := h
      replace h := gb2_elim h; obtain ⟨v9, mm10, h11, h⟩ := h
      refine x_callV 27 1 (as := [.inl a1]) (st' := []) (rs := [.inl v9]) (k_M_isSet h11) rfl cf_M_133 ⟨rfl, by decide +kernel, by decide, by decide, Nat.le_of_ble_eq_true rfl⟩ h13 rfl d_M_seen_27 ?_
      refine x_if_eq 30 48 d_M_seen_30 (by decide) (fun c14 => ?_) (fun c14 => ?_)
      · replace h := gif_t h c14
        refine x_ldc2 48 d_M_seen_48 (v := (-9223372036854775808 : Int64)) (gT_in4 14 rfl) ?_
        cases h
        exact x_lreturn 51 rfl d_M_seen_51
      · replace h := gif_f h c14
        refine x_aloadn 33 0 d_M_seen_33 rfl rfl ?_
        replace h := gb1_elim h; obtain ⟨v15, h16, h⟩ := h
        refine x_getR 34 h16 fl_M_54 d_M_seen_34 ?_
        refine x_bipush 37 d_M_seen_37 (v := (8 : Int32)) (by decide +kernel) ?_
        refine x_iloadn 39 1 d_M_seen_39 rfl rfl ?_
        refine x_imul 40 d_M_seen_40 ?_
        refine x_iload 41 4 d_M_seen_41 rfl ?_
        refine x_iadd 43 d_M_seen_43 ?_
        replace h := gb1_elim h; obtain ⟨v17, h18, h⟩ := h
        refine x_zald 44 rfl h18 d_M_seen_44 ?_
        refine x_if_ne 45 52 d_M_seen_45 (by decide) (fun c19 => ?_) (fun c19 => ?_)
        · replace h := gif_t h c19
          refine x_ldc2 48 d_M_seen_48 (v := (-9223372036854775808 : Int64)) (gT_in4 14 rfl) ?_
          cases h
          exact x_lreturn 51 rfl d_M_seen_51
        · replace h := gif_f h c19
          refine x_aloadn 52 0 d_M_seen_52 rfl rfl ?_
          refine x_aloadn 53 0 d_M_seen_53 rfl rfl ?_
          replace h := gb1_elim h; obtain ⟨v20, h21, h⟩ := h
          refine x_getR 54 h21 fl_M_39 d_M_seen_54 ?_
          refine x_iloadn 57 2 d_M_seen_57 rfl rfl ?_
          replace h := gb1_elim h; obtain ⟨v22, h23, h⟩ := h
          refine x_zald 58 rfl h23 d_M_seen_58 ?_
          refine x_if_eq 59 69 d_M_seen_59 (by decide) (fun c24 => ?_) (fun c24 => ?_)
          · replace h := gif_t h c24
            refine x_iloadn 69 2 d_M_seen_69 rfl rfl ?_
            refine x_iloadn 70 3 d_M_seen_70 rfl rfl ?_
            refine x_iload 71 4 d_M_seen_71 rfl ?_
            refine x_ldc 73 d_M_seen_73 (v := (100000 : Int32)) (gT_in4 25 rfl) ?_
            replace h := gb1_elim h; obtain ⟨b28, h29, h⟩ := h
            replace h := gb2_elim h; obtain ⟨v25, mm26, h27, h⟩ := h
            refine x_callV 75 4 (as := [.inl a1, .inl a2, .inl a3, .inl (100000 : Int32)]) (st' := []) (rs := [.inr (.inl v25)]) (k_M_valueOf h27) rfl cf_M_136 ⟨rfl, by decide +kernel, by decide, by decide, Nat.le_of_ble_eq_true rfl⟩ h29 rfl d_M_seen_75 ?_
            cases h
            exact x_lreturn 78 rfl d_M_seen_78
          · replace h := gif_f h c24
            refine x_bipush 62 d_M_seen_62 (v := (12 : Int32)) (by decide +kernel) ?_
            refine x_iloadn 64 2 d_M_seen_64 rfl rfl ?_
            refine x_iadd 65 d_M_seen_65 ?_
            refine x_goto 66 70 d_M_seen_66 (by decide) ?_
            refine x_iloadn 70 3 d_M_seen_70 rfl rfl ?_
            refine x_iload 71 4 d_M_seen_71 rfl ?_
            refine x_ldc 73 d_M_seen_73 (v := (100000 : Int32)) (gT_in4 25 rfl) ?_
            replace h := gb1_elim h; obtain ⟨b33, h34, h⟩ := h
            replace h := gb2_elim h; obtain ⟨v30, mm31, h32, h⟩ := h
            refine x_callV 75 4 (as := [.inl ((12 : Int32) + a1), .inl a2, .inl a3, .inl (100000 : Int32)]) (st' := []) (rs := [.inr (.inl v30)]) (k_M_valueOf h32) rfl cf_M_136 ⟨rfl, by decide +kernel, by decide, by decide, Nat.le_of_ble_eq_true rfl⟩ h34 rfl d_M_seen_75 ?_
            cases h
            exact x_lreturn 78 rfl d_M_seen_78
theorem k_M_seen {b : Nat} {a0 : Int32} {a1 : Int32} {a2 : Int32} {a3 : Int32} {r : Int64} {mm res : gM} (h : F_M_seen b a0 a1 a2 a3 mm = some (r, res)) : ∀ (l : Launch) (E : gD), gLe mm res ∧ gMet l E Y_M_seen y_M_seen [.inr (.inr (some b)), .inl a0, .inl a1, .inl a2, .inl a3] (some (.long r)) mm res :=
  fun l E => ⟨(w_M_seen (l := l) (E := E) (n0 := 0) (s0 := 0) h).1, x_met (by decide +kernel) rfl rfl rfl (Nat.le_of_ble_eq_true rfl) (w_M_seen h)⟩
theorem d_Blocks_firstFrom_0 : decode b_Blocks_firstFrom 0 = .ok (.iconst 0, 1) := by decide +kernel
theorem d_Blocks_firstFrom_1 : decode b_Blocks_firstFrom 1 = .ok (.istore_n 2, 1) := by decide +kernel
theorem d_Blocks_firstFrom_2 : decode b_Blocks_firstFrom 2 = .ok (.iload_n 2, 1) := by decide +kernel
theorem d_Blocks_firstFrom_3 : decode b_Blocks_firstFrom 3 = .ok (.aload_n 0, 1) := by decide +kernel
theorem d_Blocks_firstFrom_4 : decode b_Blocks_firstFrom 4 = .ok (.getfield 21, 3) := by decide +kernel
theorem d_Blocks_firstFrom_7 : decode b_Blocks_firstFrom 7 = .ok (.if_icmp .ge 30, 3) := by decide +kernel
theorem d_Blocks_firstFrom_10 : decode b_Blocks_firstFrom 10 = .ok (.iload_n 1, 1) := by decide +kernel
theorem d_Blocks_firstFrom_11 : decode b_Blocks_firstFrom 11 = .ok (.aload_n 0, 1) := by decide +kernel
theorem d_Blocks_firstFrom_12 : decode b_Blocks_firstFrom 12 = .ok (.getfield 15, 3) := by decide +kernel
theorem d_Blocks_firstFrom_15 : decode b_Blocks_firstFrom 15 = .ok (.iload_n 2, 1) := by decide +kernel
theorem d_Blocks_firstFrom_16 : decode b_Blocks_firstFrom 16 = .ok (.iaload, 1) := by decide +kernel
theorem d_Blocks_firstFrom_17 : decode b_Blocks_firstFrom 17 = .ok (.if_icmp .gt 14, 3) := by decide +kernel
theorem d_Blocks_firstFrom_20 : decode b_Blocks_firstFrom 20 = .ok (.iload_n 1, 1) := by decide +kernel
theorem d_Blocks_firstFrom_21 : decode b_Blocks_firstFrom 21 = .ok (.aload_n 0, 1) := by decide +kernel
theorem d_Blocks_firstFrom_22 : decode b_Blocks_firstFrom 22 = .ok (.getfield 9, 3) := by decide +kernel
theorem d_Blocks_firstFrom_25 : decode b_Blocks_firstFrom 25 = .ok (.iload_n 2, 1) := by decide +kernel
theorem d_Blocks_firstFrom_26 : decode b_Blocks_firstFrom 26 = .ok (.iaload, 1) := by decide +kernel
theorem d_Blocks_firstFrom_27 : decode b_Blocks_firstFrom 27 = .ok (.invokestatic 29, 3) := by decide +kernel
theorem d_Blocks_firstFrom_30 : decode b_Blocks_firstFrom 30 = .ok (.ireturn, 1) := by decide +kernel
theorem d_Blocks_firstFrom_31 : decode b_Blocks_firstFrom 31 = .ok (.iinc 2 1, 3) := by decide +kernel
theorem d_Blocks_firstFrom_34 : decode b_Blocks_firstFrom 34 = .ok (.goto (-32), 3) := by decide +kernel
theorem d_Blocks_firstFrom_37 : decode b_Blocks_firstFrom 37 = .ok (.sipush 10000, 3) := by decide +kernel
theorem d_Blocks_firstFrom_40 : decode b_Blocks_firstFrom 40 = .ok (.ireturn, 1) := by decide +kernel
def L_Blocks_firstFrom_2 (k20 : Option Nat → Int32 → Int32 → gM → Option (Int32 × gM)) (k37 : gM → Option (Int32 × gM)) : Nat → Option Nat → Int32 → Int32 → gM → Option (Int32 × gM)
  | 0, _, _, _, _ => none
  | f + 1, p0, p1, p2, mm =>
    gb1 (gfI 2 3 p0 mm) fun v1 =>
    if v1 ≤ p2 then (
      k37  mm)
    else (
      gb1 (gfR 2 1 p0 mm) fun v4 =>
      gb1 (gaI 0 v4 p2 mm) fun v6 =>
      if v6 < p1 then (
        gLet (p2 + 1) fun x9 =>
        L_Blocks_firstFrom_2 k20 k37 f p0 p1 x9 mm)
      else (
        k20 p0 p1 p2 mm))
set_option maxHeartbeats 4000000 in
set_option maxRecDepth 100000 in
theorem wL_Blocks_firstFrom_2 {l : Launch} {E : gD} {n0 s0 : Nat} {r : Int32} {res : gM} {k20 : Option Nat → Int32 → Int32 → gM → Option (Int32 × gM)} {k37 : gM → Option (Int32 × gM)} (hk20 : ∀ (p0 : Option Nat) (p1 : Int32) (p2 : Int32) (mm : gM), k20 p0 p1 p2 mm = some (r, res) → xX l E Y_Blocks_firstFrom n0 s0 (some (.int r)) res 20 [(0, .inr (.inr p0)), (1, .inl p1), (2, .inl p2)] [] mm) (hk37 : ∀  (mm : gM), k37  mm = some (r, res) → xX l E Y_Blocks_firstFrom n0 s0 (some (.int r)) res 37 [] [] mm) : ∀ (f : Nat) (p0 : Option Nat) (p1 : Int32) (p2 : Int32) (mm : gM), L_Blocks_firstFrom_2 k20 k37 f p0 p1 p2 mm = some (r, res) → xX l E Y_Blocks_firstFrom n0 s0 (some (.int r)) res 2 [(0, .inr (.inr p0)), (1, .inl p1), (2, .inl p2)] [] mm := by
  intro f
  induction f with
  | zero =>
    intro p0 p1 p2 mm h
    rw [L_Blocks_firstFrom_2] at h
    cases h
  | succ f ih =>
    intro p0 p1 p2 mm h
    rw [L_Blocks_firstFrom_2] at h
    refine x_iloadn 2 2 d_Blocks_firstFrom_2 rfl rfl ?_
    refine x_aloadn 3 0 d_Blocks_firstFrom_3 rfl rfl ?_
    replace h := gb1_elim h; obtain ⟨v1, h2, h⟩ := h
    refine x_getI 4 h2 fl_Blocks_21 d_Blocks_firstFrom_4 ?_
    refine x_icmp_ge 7 37 d_Blocks_firstFrom_7 (by decide) (fun c3 => ?_) (fun c3 => ?_)
    · replace h := gif_t h c3
      refine x_sub [] rfl ?_
      exact hk37 _ h
    · replace h := gif_f h c3
      refine x_iloadn 10 1 d_Blocks_firstFrom_10 rfl rfl ?_
      refine x_aloadn 11 0 d_Blocks_firstFrom_11 rfl rfl ?_
      replace h := gb1_elim h; obtain ⟨v4, h5, h⟩ := h
      refine x_getR 12 h5 fl_Blocks_15 d_Blocks_firstFrom_12 ?_
      refine x_iloadn 15 2 d_Blocks_firstFrom_15 rfl rfl ?_
      replace h := gb1_elim h; obtain ⟨v6, h7, h⟩ := h
      refine x_iald 16 rfl h7 d_Blocks_firstFrom_16 ?_
      refine x_icmp_gt 17 31 d_Blocks_firstFrom_17 (by decide) (fun c8 => ?_) (fun c8 => ?_)
      · replace h := gif_t h c8
        replace h := gLet_elim h; obtain ⟨x9, ex9, h⟩ := h
        refine x_iinc 31 2 (v := x9) (lv' := [(2, .inl x9), (0, .inr (.inr p0)), (1, .inl p1)]) d_Blocks_firstFrom_31 rfl (by rw [ex9]; rfl) (by decide) rfl ?_
        refine x_goto 34 2 d_Blocks_firstFrom_34 (by decide) ?_
        refine x_sub [1, 2, 0] rfl ?_
        exact ih _ _ _ _ h
      · replace h := gif_f h c8
        exact hk20 _ _ _ _ h
def F_Blocks_firstFrom (b : Nat) (a0 : Int32) (mm : gM) : Option (Int32 × gM) :=
  L_Blocks_firstFrom_2 (fun p0 p1 p2 mm =>
    gb1 (gfR 2 0 p0 mm) fun v10 =>
    gb1 (gaI 0 v10 p2 mm) fun v12 =>
    gLet (if p1 < v12 then v12 else p1) fun x14 =>
    some (x14, mm)) (fun  mm =>
    some ((10000 : Int32), mm)) gF (some b) a0 (0 : Int32) mm
set_option maxHeartbeats 8000000 in
set_option maxRecDepth 100000 in
theorem w_Blocks_firstFrom {l : Launch} {E : gD} {n0 s0 : Nat} {b : Nat} {a0 : Int32} {r : Int32} {mm res : gM} (h : F_Blocks_firstFrom b a0 mm = some (r, res)) : xX l E Y_Blocks_firstFrom n0 s0 (some (.int r)) res 0 [(0, .inr (.inr (some b))), (1, .inl a0)] [] mm := by
  unfold F_Blocks_firstFrom at h
  refine x_iconst 0 d_Blocks_firstFrom_0 (v := (0 : Int32)) (by decide +kernel) ?_
  refine x_istoren 1 (lv' := [(2, .inl (0 : Int32)), (0, .inr (.inr (some b))), (1, .inl a0)]) d_Blocks_firstFrom_1 rfl (by decide) rfl ?_
  refine x_sub [1, 2, 0] rfl ?_
  refine wL_Blocks_firstFrom_2 ?_ ?_ gF _ _ _ _ h
  · intro p0 p1 p2 mm h
    refine x_iloadn 20 1 d_Blocks_firstFrom_20 rfl rfl ?_
    refine x_aloadn 21 0 d_Blocks_firstFrom_21 rfl rfl ?_
    replace h := gb1_elim h; obtain ⟨v10, h11, h⟩ := h
    refine x_getR 22 h11 fl_Blocks_9 d_Blocks_firstFrom_22 ?_
    refine x_iloadn 25 2 d_Blocks_firstFrom_25 rfl rfl ?_
    replace h := gb1_elim h; obtain ⟨v12, h13, h⟩ := h
    refine x_iald 26 rfl h13 d_Blocks_firstFrom_26 ?_
    refine x_mmax 27 (gT_in2 138 rfl) (gT_in0 140 rfl) (gT_in0 11 rfl) (gT_in0 141 rfl) (by decide) (Nat.le_of_ble_eq_true rfl) d_Blocks_firstFrom_27 ?_
    replace h := gLet_elim h; obtain ⟨x14, ex14, h⟩ := h
    refine x_topi ex14 ?_
    cases h
    exact x_ireturn 30 rfl d_Blocks_firstFrom_30
  · intro  mm h
    refine x_sipush 37 d_Blocks_firstFrom_37 (v := (10000 : Int32)) (by decide +kernel) ?_
    cases h
    exact x_ireturn 40 rfl d_Blocks_firstFrom_40
theorem k_Blocks_firstFrom {b : Nat} {a0 : Int32} {r : Int32} {mm res : gM} (h : F_Blocks_firstFrom b a0 mm = some (r, res)) : ∀ (l : Launch) (E : gD), gLe mm res ∧ gMet l E Y_Blocks_firstFrom y_Blocks_firstFrom [.inr (.inr (some b)), .inl a0] (some (.int r)) mm res :=
  fun l E => ⟨(w_Blocks_firstFrom (l := l) (E := E) (n0 := 0) (s0 := 0) h).1, x_met (by decide +kernel) rfl rfl rfl (Nat.le_of_ble_eq_true rfl) (w_Blocks_firstFrom h)⟩
theorem d_Blocks_add_0 : decode b_Blocks_add 0 = .ok (.aload_n 0, 1) := by decide +kernel
theorem d_Blocks_add_1 : decode b_Blocks_add 1 = .ok (.getfield 21, 3) := by decide +kernel
theorem d_Blocks_add_4 : decode b_Blocks_add 4 = .ok (.bipush 6, 2) := by decide +kernel
theorem d_Blocks_add_6 : decode b_Blocks_add 6 = .ok (.if_icmp .ge 12, 3) := by decide +kernel
theorem d_Blocks_add_9 : decode b_Blocks_add 9 = .ok (.aload_n 0, 1) := by decide +kernel
theorem d_Blocks_add_10 : decode b_Blocks_add 10 = .ok (.iload_n 1, 1) := by decide +kernel
theorem d_Blocks_add_11 : decode b_Blocks_add 11 = .ok (.invokevirtual 25, 3) := by decide +kernel
theorem d_Blocks_add_14 : decode b_Blocks_add 14 = .ok (.iload_n 2, 1) := by decide +kernel
theorem d_Blocks_add_15 : decode b_Blocks_add 15 = .ok (.if_icmp .gt 5, 3) := by decide +kernel
theorem d_Blocks_add_18 : decode b_Blocks_add 18 = .ok (.iconst 0, 1) := by decide +kernel
theorem d_Blocks_add_19 : decode b_Blocks_add 19 = .ok (.ireturn, 1) := by decide +kernel
theorem d_Blocks_add_20 : decode b_Blocks_add 20 = .ok (.aload_n 0, 1) := by decide +kernel
theorem d_Blocks_add_21 : decode b_Blocks_add 21 = .ok (.getfield 21, 3) := by decide +kernel
theorem d_Blocks_add_24 : decode b_Blocks_add 24 = .ok (.istore_n 3, 1) := by decide +kernel
theorem d_Blocks_add_25 : decode b_Blocks_add 25 = .ok (.iload_n 3, 1) := by decide +kernel
theorem d_Blocks_add_26 : decode b_Blocks_add 26 = .ok (.ifCond .le 63, 3) := by decide +kernel
theorem d_Blocks_add_29 : decode b_Blocks_add 29 = .ok (.aload_n 0, 1) := by decide +kernel
theorem d_Blocks_add_30 : decode b_Blocks_add 30 = .ok (.getfield 9, 3) := by decide +kernel
theorem d_Blocks_add_33 : decode b_Blocks_add 33 = .ok (.iload_n 3, 1) := by decide +kernel
theorem d_Blocks_add_34 : decode b_Blocks_add 34 = .ok (.iconst 1, 1) := by decide +kernel
theorem d_Blocks_add_35 : decode b_Blocks_add 35 = .ok (.isub, 1) := by decide +kernel
theorem d_Blocks_add_36 : decode b_Blocks_add 36 = .ok (.iaload, 1) := by decide +kernel
theorem d_Blocks_add_37 : decode b_Blocks_add 37 = .ok (.iload_n 1, 1) := by decide +kernel
theorem d_Blocks_add_38 : decode b_Blocks_add 38 = .ok (.if_icmp .le 51, 3) := by decide +kernel
theorem d_Blocks_add_41 : decode b_Blocks_add 41 = .ok (.aload_n 0, 1) := by decide +kernel
theorem d_Blocks_add_42 : decode b_Blocks_add 42 = .ok (.getfield 9, 3) := by decide +kernel
theorem d_Blocks_add_45 : decode b_Blocks_add 45 = .ok (.iload_n 3, 1) := by decide +kernel
theorem d_Blocks_add_46 : decode b_Blocks_add 46 = .ok (.aload_n 0, 1) := by decide +kernel
theorem d_Blocks_add_47 : decode b_Blocks_add 47 = .ok (.getfield 9, 3) := by decide +kernel
theorem d_Blocks_add_50 : decode b_Blocks_add 50 = .ok (.iload_n 3, 1) := by decide +kernel
theorem d_Blocks_add_51 : decode b_Blocks_add 51 = .ok (.iconst 1, 1) := by decide +kernel
theorem d_Blocks_add_52 : decode b_Blocks_add 52 = .ok (.isub, 1) := by decide +kernel
theorem d_Blocks_add_53 : decode b_Blocks_add 53 = .ok (.iaload, 1) := by decide +kernel
theorem d_Blocks_add_54 : decode b_Blocks_add 54 = .ok (.iastore, 1) := by decide +kernel
theorem d_Blocks_add_55 : decode b_Blocks_add 55 = .ok (.aload_n 0, 1) := by decide +kernel
theorem d_Blocks_add_56 : decode b_Blocks_add 56 = .ok (.getfield 15, 3) := by decide +kernel
theorem d_Blocks_add_59 : decode b_Blocks_add 59 = .ok (.iload_n 3, 1) := by decide +kernel
theorem d_Blocks_add_60 : decode b_Blocks_add 60 = .ok (.aload_n 0, 1) := by decide +kernel
theorem d_Blocks_add_61 : decode b_Blocks_add 61 = .ok (.getfield 15, 3) := by decide +kernel
theorem d_Blocks_add_64 : decode b_Blocks_add 64 = .ok (.iload_n 3, 1) := by decide +kernel
theorem d_Blocks_add_65 : decode b_Blocks_add 65 = .ok (.iconst 1, 1) := by decide +kernel
theorem d_Blocks_add_66 : decode b_Blocks_add 66 = .ok (.isub, 1) := by decide +kernel
theorem d_Blocks_add_67 : decode b_Blocks_add 67 = .ok (.iaload, 1) := by decide +kernel
theorem d_Blocks_add_68 : decode b_Blocks_add 68 = .ok (.iastore, 1) := by decide +kernel
theorem d_Blocks_add_69 : decode b_Blocks_add 69 = .ok (.aload_n 0, 1) := by decide +kernel
theorem d_Blocks_add_70 : decode b_Blocks_add 70 = .ok (.getfield 18, 3) := by decide +kernel
theorem d_Blocks_add_73 : decode b_Blocks_add 73 = .ok (.iload_n 3, 1) := by decide +kernel
theorem d_Blocks_add_74 : decode b_Blocks_add 74 = .ok (.aload_n 0, 1) := by decide +kernel
theorem d_Blocks_add_75 : decode b_Blocks_add 75 = .ok (.getfield 18, 3) := by decide +kernel
theorem d_Blocks_add_78 : decode b_Blocks_add 78 = .ok (.iload_n 3, 1) := by decide +kernel
theorem d_Blocks_add_79 : decode b_Blocks_add 79 = .ok (.iconst 1, 1) := by decide +kernel
theorem d_Blocks_add_80 : decode b_Blocks_add 80 = .ok (.isub, 1) := by decide +kernel
theorem d_Blocks_add_81 : decode b_Blocks_add 81 = .ok (.iaload, 1) := by decide +kernel
theorem d_Blocks_add_82 : decode b_Blocks_add 82 = .ok (.iastore, 1) := by decide +kernel
theorem d_Blocks_add_83 : decode b_Blocks_add 83 = .ok (.iinc 3 (-1), 3) := by decide +kernel
theorem d_Blocks_add_86 : decode b_Blocks_add 86 = .ok (.goto (-61), 3) := by decide +kernel
theorem d_Blocks_add_89 : decode b_Blocks_add 89 = .ok (.aload_n 0, 1) := by decide +kernel
theorem d_Blocks_add_90 : decode b_Blocks_add 90 = .ok (.getfield 9, 3) := by decide +kernel
theorem d_Blocks_add_93 : decode b_Blocks_add 93 = .ok (.iload_n 3, 1) := by decide +kernel
theorem d_Blocks_add_94 : decode b_Blocks_add 94 = .ok (.iload_n 1, 1) := by decide +kernel
theorem d_Blocks_add_95 : decode b_Blocks_add 95 = .ok (.iastore, 1) := by decide +kernel
theorem d_Blocks_add_96 : decode b_Blocks_add 96 = .ok (.aload_n 0, 1) := by decide +kernel
theorem d_Blocks_add_97 : decode b_Blocks_add 97 = .ok (.getfield 15, 3) := by decide +kernel
theorem d_Blocks_add_100 : decode b_Blocks_add 100 = .ok (.iload_n 3, 1) := by decide +kernel
theorem d_Blocks_add_101 : decode b_Blocks_add 101 = .ok (.iload_n 2, 1) := by decide +kernel
theorem d_Blocks_add_102 : decode b_Blocks_add 102 = .ok (.iastore, 1) := by decide +kernel
theorem d_Blocks_add_103 : decode b_Blocks_add 103 = .ok (.aload_n 0, 1) := by decide +kernel
theorem d_Blocks_add_104 : decode b_Blocks_add 104 = .ok (.getfield 18, 3) := by decide +kernel
theorem d_Blocks_add_107 : decode b_Blocks_add 107 = .ok (.iload_n 3, 1) := by decide +kernel
theorem d_Blocks_add_108 : decode b_Blocks_add 108 = .ok (.iload_n 1, 1) := by decide +kernel
theorem d_Blocks_add_109 : decode b_Blocks_add 109 = .ok (.iastore, 1) := by decide +kernel
theorem d_Blocks_add_110 : decode b_Blocks_add 110 = .ok (.aload_n 0, 1) := by decide +kernel
theorem d_Blocks_add_111 : decode b_Blocks_add 111 = .ok (.dup, 1) := by decide +kernel
theorem d_Blocks_add_112 : decode b_Blocks_add 112 = .ok (.getfield 21, 3) := by decide +kernel
theorem d_Blocks_add_115 : decode b_Blocks_add 115 = .ok (.iconst 1, 1) := by decide +kernel
theorem d_Blocks_add_116 : decode b_Blocks_add 116 = .ok (.iadd, 1) := by decide +kernel
theorem d_Blocks_add_117 : decode b_Blocks_add 117 = .ok (.putfield 21, 3) := by decide +kernel
theorem d_Blocks_add_120 : decode b_Blocks_add 120 = .ok (.iconst 1, 1) := by decide +kernel
theorem d_Blocks_add_121 : decode b_Blocks_add 121 = .ok (.ireturn, 1) := by decide +kernel
def L_Blocks_add_25 (k89 : Option Nat → Int32 → Int32 → Int32 → gM → Option (Int32 × gM)) : Nat → Option Nat → Int32 → Int32 → Int32 → gM → Option (Int32 × gM)
  | 0, _, _, _, _, _ => none
  | f + 1, p0, p1, p2, p3, mm =>
    if p3 ≤ 0 then (
      k89 p0 p1 p2 p3 mm)
    else (
      gb1 (gfR 2 0 p0 mm) fun v13 =>
      gb1 (gaI 0 v13 (p3 - (1 : Int32)) mm) fun v15 =>
      if v15 ≤ p1 then (
        k89 p0 p1 p2 p3 mm)
      else (
        gb1 (gfR 2 0 p0 mm) fun v18 =>
        gb1 (gfR 2 0 p0 mm) fun v20 =>
        gb1 (gaI 0 v20 (p3 - (1 : Int32)) mm) fun v22 =>
        gb1 (gsI 0 v18 p3 v22 mm) fun mm24 =>
        gb1 (gfR 2 1 p0 mm24) fun v26 =>
        gb1 (gfR 2 1 p0 mm24) fun v28 =>
        gb1 (gaI 0 v28 (p3 - (1 : Int32)) mm24) fun v30 =>
        gb1 (gsI 0 v26 p3 v30 mm24) fun mm32 =>
        gb1 (gfR 2 2 p0 mm32) fun v34 =>
        gb1 (gfR 2 2 p0 mm32) fun v36 =>
        gb1 (gaI 0 v36 (p3 - (1 : Int32)) mm32) fun v38 =>
        gb1 (gsI 0 v34 p3 v38 mm32) fun mm40 =>
        gLet (p3 + (-1)) fun x42 =>
        L_Blocks_add_25 k89 f p0 p1 p2 x42 mm40))
set_option maxHeartbeats 4000000 in
set_option maxRecDepth 100000 in
theorem wL_Blocks_add_25 {l : Launch} {E : gD} {n0 s0 : Nat} {r : Int32} {res : gM} {k89 : Option Nat → Int32 → Int32 → Int32 → gM → Option (Int32 × gM)} (hk89 : ∀ (p0 : Option Nat) (p1 : Int32) (p2 : Int32) (p3 : Int32) (mm : gM), k89 p0 p1 p2 p3 mm = some (r, res) → xX l E Y_Blocks_add n0 s0 (some (.int r)) res 89 [(0, .inr (.inr p0)), (1, .inl p1), (2, .inl p2), (3, .inl p3)] [] mm) : ∀ (f : Nat) (p0 : Option Nat) (p1 : Int32) (p2 : Int32) (p3 : Int32) (mm : gM), L_Blocks_add_25 k89 f p0 p1 p2 p3 mm = some (r, res) → xX l E Y_Blocks_add n0 s0 (some (.int r)) res 25 [(0, .inr (.inr p0)), (1, .inl p1), (2, .inl p2), (3, .inl p3)] [] mm := by
  intro f
  induction f with
  | zero =>
    intro p0 p1 p2 p3 mm h
    rw [L_Blocks_add_25] at h
    cases h
  | succ f ih =>
    intro p0 p1 p2 p3 mm h
    rw [L_Blocks_add_25] at h
    refine x_iloadn 25 3 d_Blocks_add_25 rfl rfl ?_
    refine x_if_le 26 89 d_Blocks_add_26 (by decide) (fun c12 => ?_) (fun c12 => ?_)
    · replace h := gif_t h c12
      exact hk89 _ _ _ _ _ h
    · replace h := gif_f h c12
      refine x_aloadn 29 0 d_Blocks_add_29 rfl rfl ?_
      replace h := gb1_elim h; obtain ⟨v13, h14, h⟩ := h
      refine x_getR 30 h14 fl_Blocks_9 d_Blocks_add_30 ?_
      refine x_iloadn 33 3 d_Blocks_add_33 rfl rfl ?_
      refine x_iconst 34 d_Blocks_add_34 (v := (1 : Int32)) (by decide +kernel) ?_
      refine x_isub 35 d_Blocks_add_35 ?_
      replace h := gb1_elim h; obtain ⟨v15, h16, h⟩ := h
      refine x_iald 36 rfl h16 d_Blocks_add_36 ?_
      refine x_iloadn 37 1 d_Blocks_add_37 rfl rfl ?_
      refine x_icmp_le 38 89 d_Blocks_add_38 (by decide) (fun c17 => ?_) (fun c17 => ?_)
      · replace h := gif_t h c17
        exact hk89 _ _ _ _ _ h
      · replace h := gif_f h c17
        refine x_aloadn 41 0 d_Blocks_add_41 rfl rfl ?_
        replace h := gb1_elim h; obtain ⟨v18, h19, h⟩ := h
        refine x_getR 42 h19 fl_Blocks_9 d_Blocks_add_42 ?_
        refine x_iloadn 45 3 d_Blocks_add_45 rfl rfl ?_
        refine x_aloadn 46 0 d_Blocks_add_46 rfl rfl ?_
        replace h := gb1_elim h; obtain ⟨v20, h21, h⟩ := h
        refine x_getR 47 h21 fl_Blocks_9 d_Blocks_add_47 ?_
        refine x_iloadn 50 3 d_Blocks_add_50 rfl rfl ?_
        refine x_iconst 51 d_Blocks_add_51 (v := (1 : Int32)) (by decide +kernel) ?_
        refine x_isub 52 d_Blocks_add_52 ?_
        replace h := gb1_elim h; obtain ⟨v22, h23, h⟩ := h
        refine x_iald 53 rfl h23 d_Blocks_add_53 ?_
        replace h := gb1_elim h; obtain ⟨mm24, h25, h⟩ := h
        refine x_iast 54 (by decide) rfl h25 d_Blocks_add_54 ?_
        refine x_aloadn 55 0 d_Blocks_add_55 rfl rfl ?_
        replace h := gb1_elim h; obtain ⟨v26, h27, h⟩ := h
        refine x_getR 56 h27 fl_Blocks_15 d_Blocks_add_56 ?_
        refine x_iloadn 59 3 d_Blocks_add_59 rfl rfl ?_
        refine x_aloadn 60 0 d_Blocks_add_60 rfl rfl ?_
        replace h := gb1_elim h; obtain ⟨v28, h29, h⟩ := h
        refine x_getR 61 h29 fl_Blocks_15 d_Blocks_add_61 ?_
        refine x_iloadn 64 3 d_Blocks_add_64 rfl rfl ?_
        refine x_iconst 65 d_Blocks_add_65 (v := (1 : Int32)) (by decide +kernel) ?_
        refine x_isub 66 d_Blocks_add_66 ?_
        replace h := gb1_elim h; obtain ⟨v30, h31, h⟩ := h
        refine x_iald 67 rfl h31 d_Blocks_add_67 ?_
        replace h := gb1_elim h; obtain ⟨mm32, h33, h⟩ := h
        refine x_iast 68 (by decide) rfl h33 d_Blocks_add_68 ?_
        refine x_aloadn 69 0 d_Blocks_add_69 rfl rfl ?_
        replace h := gb1_elim h; obtain ⟨v34, h35, h⟩ := h
        refine x_getR 70 h35 fl_Blocks_18 d_Blocks_add_70 ?_
        refine x_iloadn 73 3 d_Blocks_add_73 rfl rfl ?_
        refine x_aloadn 74 0 d_Blocks_add_74 rfl rfl ?_
        replace h := gb1_elim h; obtain ⟨v36, h37, h⟩ := h
        refine x_getR 75 h37 fl_Blocks_18 d_Blocks_add_75 ?_
        refine x_iloadn 78 3 d_Blocks_add_78 rfl rfl ?_
        refine x_iconst 79 d_Blocks_add_79 (v := (1 : Int32)) (by decide +kernel) ?_
        refine x_isub 80 d_Blocks_add_80 ?_
        replace h := gb1_elim h; obtain ⟨v38, h39, h⟩ := h
        refine x_iald 81 rfl h39 d_Blocks_add_81 ?_
        replace h := gb1_elim h; obtain ⟨mm40, h41, h⟩ := h
        refine x_iast 82 (by decide) rfl h41 d_Blocks_add_82 ?_
        replace h := gLet_elim h; obtain ⟨x42, ex42, h⟩ := h
        refine x_iinc 83 3 (v := x42) (lv' := [(3, .inl x42), (0, .inr (.inr p0)), (1, .inl p1), (2, .inl p2)]) d_Blocks_add_83 rfl (by rw [ex42]; rfl) (by decide) rfl ?_
        refine x_goto 86 25 d_Blocks_add_86 (by decide) ?_
        refine x_sub [1, 2, 3, 0] rfl ?_
        exact ih _ _ _ _ _ h
def F_Blocks_add (b : Nat) (a0 : Int32) (a1 : Int32) (mm : gM) : Option (Int32 × gM) :=
  gb1 (gfI 2 3 (some b) mm) fun v1 =>
  if (6 : Int32) ≤ v1 then (
    some ((0 : Int32), mm))
  else (
    gb1 (grc 2 (some b) mm) fun b7 =>
    gb2 (F_Blocks_firstFrom b7 a0 mm) fun v4 mm5 =>
    if a1 < v4 then (
      gb1 (gfI 2 3 (some b) mm5) fun v10 =>
      L_Blocks_add_25 (fun p0 p1 p2 p3 mm =>
        gb1 (gfR 2 0 p0 mm) fun v43 =>
        gb1 (gsI 0 v43 p3 p1 mm) fun mm45 =>
        gb1 (gfR 2 1 p0 mm45) fun v47 =>
        gb1 (gsI 0 v47 p3 p2 mm45) fun mm49 =>
        gb1 (gfR 2 2 p0 mm49) fun v51 =>
        gb1 (gsI 0 v51 p3 p1 mm49) fun mm53 =>
        gb1 (gfI 2 3 p0 mm53) fun v55 =>
        gb1 (gpV 2 3 p0 (.int (v55 + (1 : Int32))) mm53) fun mm57 =>
        some ((1 : Int32), mm57)) gF (some b) a0 a1 v10 mm5)
    else (
      some ((0 : Int32), mm5)))
set_option maxHeartbeats 8000000 in
set_option maxRecDepth 100000 in
theorem w_Blocks_add {l : Launch} {E : gD} {n0 s0 : Nat} {b : Nat} {a0 : Int32} {a1 : Int32} {r : Int32} {mm res : gM} (h : F_Blocks_add b a0 a1 mm = some (r, res)) : xX l E Y_Blocks_add n0 s0 (some (.int r)) res 0 [(0, .inr (.inr (some b))), (1, .inl a0), (2, .inl a1)] [] mm := by
  unfold F_Blocks_add at h
  refine x_aloadn 0 0 d_Blocks_add_0 rfl rfl ?_
  replace h := gb1_elim h; obtain ⟨v1, h2, h⟩ := h
  refine x_getI 1 h2 fl_Blocks_21 d_Blocks_add_1 ?_
  refine x_bipush 4 d_Blocks_add_4 (v := (6 : Int32)) (by decide +kernel) ?_
  refine x_icmp_ge 6 18 d_Blocks_add_6 (by decide) (fun c3 => ?_) (fun c3 => ?_)
  · replace h := gif_t h c3
    refine x_iconst 18 d_Blocks_add_18 (v := (0 : Int32)) (by decide +kernel) ?_
    cases h
    exact x_zreturn 19 (by decide) rfl d_Blocks_add_19
  · replace h := gif_f h c3
    refine x_aloadn 9 0 d_Blocks_add_9 rfl rfl ?_
    refine x_iloadn 10 1 d_Blocks_add_10 rfl rfl ?_
    replace h := gb1_elim h; obtain ⟨b7, h8, h⟩ := h
    replace h := gb2_elim h; obtain ⟨v4, mm5, h6, h⟩ := h
    refine x_callV 11 1 (as := [.inl a0]) (st' := []) (rs := [.inl v4]) (k_Blocks_firstFrom h6) rfl cf_Blocks_25 ⟨rfl, by decide +kernel, by decide, by decide, Nat.le_of_ble_eq_true rfl⟩ h8 rfl d_Blocks_add_11 ?_
    refine x_iloadn 14 2 d_Blocks_add_14 rfl rfl ?_
    refine x_icmp_gt 15 20 d_Blocks_add_15 (by decide) (fun c9 => ?_) (fun c9 => ?_)
    · replace h := gif_t h c9
      refine x_aloadn 20 0 d_Blocks_add_20 rfl rfl ?_
      replace h := gb1_elim h; obtain ⟨v10, h11, h⟩ := h
      refine x_getI 21 h11 fl_Blocks_21 d_Blocks_add_21 ?_
      refine x_istoren 24 (lv' := [(3, .inl v10), (0, .inr (.inr (some b))), (1, .inl a0), (2, .inl a1)]) d_Blocks_add_24 rfl (by decide) rfl ?_
      refine x_sub [1, 2, 3, 0] rfl ?_
      refine wL_Blocks_add_25 ?_ gF _ _ _ _ _ h
      · intro p0 p1 p2 p3 mm h
        refine x_aloadn 89 0 d_Blocks_add_89 rfl rfl ?_
        replace h := gb1_elim h; obtain ⟨v43, h44, h⟩ := h
        refine x_getR 90 h44 fl_Blocks_9 d_Blocks_add_90 ?_
        refine x_iloadn 93 3 d_Blocks_add_93 rfl rfl ?_
        refine x_iloadn 94 1 d_Blocks_add_94 rfl rfl ?_
        replace h := gb1_elim h; obtain ⟨mm45, h46, h⟩ := h
        refine x_iast 95 (by decide) rfl h46 d_Blocks_add_95 ?_
        refine x_aloadn 96 0 d_Blocks_add_96 rfl rfl ?_
        replace h := gb1_elim h; obtain ⟨v47, h48, h⟩ := h
        refine x_getR 97 h48 fl_Blocks_15 d_Blocks_add_97 ?_
        refine x_iloadn 100 3 d_Blocks_add_100 rfl rfl ?_
        refine x_iloadn 101 2 d_Blocks_add_101 rfl rfl ?_
        replace h := gb1_elim h; obtain ⟨mm49, h50, h⟩ := h
        refine x_iast 102 (by decide) rfl h50 d_Blocks_add_102 ?_
        refine x_aloadn 103 0 d_Blocks_add_103 rfl rfl ?_
        replace h := gb1_elim h; obtain ⟨v51, h52, h⟩ := h
        refine x_getR 104 h52 fl_Blocks_18 d_Blocks_add_104 ?_
        refine x_iloadn 107 3 d_Blocks_add_107 rfl rfl ?_
        refine x_iloadn 108 1 d_Blocks_add_108 rfl rfl ?_
        replace h := gb1_elim h; obtain ⟨mm53, h54, h⟩ := h
        refine x_iast 109 (by decide) rfl h54 d_Blocks_add_109 ?_
        refine x_aloadn 110 0 d_Blocks_add_110 rfl rfl ?_
        refine x_dup 111 d_Blocks_add_111 rfl ?_
        replace h := gb1_elim h; obtain ⟨v55, h56, h⟩ := h
        refine x_getI 112 h56 fl_Blocks_21 d_Blocks_add_112 ?_
        refine x_iconst 115 d_Blocks_add_115 (v := (1 : Int32)) (by decide +kernel) ?_
        refine x_iadd 116 d_Blocks_add_116 ?_
        replace h := gb1_elim h; obtain ⟨mm57, h58, h⟩ := h
        refine x_putV 117 fp_Blocks_21 rfl rfl h58 d_Blocks_add_117 ?_
        refine x_iconst 120 d_Blocks_add_120 (v := (1 : Int32)) (by decide +kernel) ?_
        cases h
        exact x_zreturn 121 (by decide) rfl d_Blocks_add_121
    · replace h := gif_f h c9
      refine x_iconst 18 d_Blocks_add_18 (v := (0 : Int32)) (by decide +kernel) ?_
      cases h
      exact x_zreturn 19 (by decide) rfl d_Blocks_add_19
theorem k_Blocks_add {b : Nat} {a0 : Int32} {a1 : Int32} {r : Int32} {mm res : gM} (h : F_Blocks_add b a0 a1 mm = some (r, res)) : ∀ (l : Launch) (E : gD), gLe mm res ∧ gMet l E Y_Blocks_add y_Blocks_add [.inr (.inr (some b)), .inl a0, .inl a1] (some (.int r)) mm res :=
  fun l E => ⟨(w_Blocks_add (l := l) (E := E) (n0 := 0) (s0 := 0) h).1, x_met (by decide +kernel) rfl rfl rfl (Nat.le_of_ble_eq_true rfl) (w_Blocks_add h)⟩
