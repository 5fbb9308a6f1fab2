-- S_settle M_settle Holding_becomeLike
theorem d_S_settle_0 : decode b_S_settle 0 = .ok (.aload_n 0, 1) := by decide +kernel
theorem d_S_settle_1 : decode b_S_settle 1 = .ok (.iload_n 1, 1) := by decide +kernel
theorem d_S_settle_2 : decode b_S_settle 2 = .ok (.invokevirtual 110, 3) := by decide +kernel
theorem d_S_settle_5 : decode b_S_settle 5 = .ok (.astore 5, 2) := by decide +kernel
theorem d_S_settle_7 : decode b_S_settle 7 = .ok (.iload_n 2, 1) := by decide +kernel
theorem d_S_settle_8 : decode b_S_settle 8 = .ok (.iload_n 3, 1) := by decide +kernel
theorem d_S_settle_9 : decode b_S_settle 9 = .ok (.invokestatic 60, 3) := by decide +kernel
theorem d_S_settle_12 : decode b_S_settle 12 = .ok (.istore 6, 2) := by decide +kernel
theorem d_S_settle_14 : decode b_S_settle 14 = .ok (.aload 5, 2) := by decide +kernel
theorem d_S_settle_16 : decode b_S_settle 16 = .ok (.ifnull 30, 3) := by decide +kernel
theorem d_S_settle_19 : decode b_S_settle 19 = .ok (.iload 6, 2) := by decide +kernel
theorem d_S_settle_21 : decode b_S_settle 21 = .ok (.iconst (-1), 1) := by decide +kernel
theorem d_S_settle_22 : decode b_S_settle 22 = .ok (.if_icmp .eq 24, 3) := by decide +kernel
theorem d_S_settle_25 : decode b_S_settle 25 = .ok (.aload_n 0, 1) := by decide +kernel
theorem d_S_settle_26 : decode b_S_settle 26 = .ok (.iload 4, 2) := by decide +kernel
theorem d_S_settle_28 : decode b_S_settle 28 = .ok (.invokevirtual 56, 3) := by decide +kernel
theorem d_S_settle_31 : decode b_S_settle 31 = .ok (.ifnull 15, 3) := by decide +kernel
theorem d_S_settle_34 : decode b_S_settle 34 = .ok (.aload_n 0, 1) := by decide +kernel
theorem d_S_settle_35 : decode b_S_settle 35 = .ok (.getfield 21, 3) := by decide +kernel
theorem d_S_settle_38 : decode b_S_settle 38 = .ok (.invokevirtual 45, 3) := by decide +kernel
theorem d_S_settle_41 : decode b_S_settle 41 = .ok (.bipush 40, 2) := by decide +kernel
theorem d_S_settle_43 : decode b_S_settle 43 = .ok (.if_icmp .lt 5, 3) := by decide +kernel
theorem d_S_settle_46 : decode b_S_settle 46 = .ok (.iconst (-1), 1) := by decide +kernel
theorem d_S_settle_47 : decode b_S_settle 47 = .ok (.ireturn, 1) := by decide +kernel
theorem d_S_settle_48 : decode b_S_settle 48 = .ok (.aload_n 0, 1) := by decide +kernel
theorem d_S_settle_49 : decode b_S_settle 49 = .ok (.aload 5, 2) := by decide +kernel
theorem d_S_settle_51 : decode b_S_settle 51 = .ok (.getfield 100, 3) := by decide +kernel
theorem d_S_settle_54 : decode b_S_settle 54 = .ok (.iload 6, 2) := by decide +kernel
theorem d_S_settle_56 : decode b_S_settle 56 = .ok (.ldc 136, 2) := by decide +kernel
theorem d_S_settle_58 : decode b_S_settle 58 = .ok (.invokevirtual 137, 3) := by decide +kernel
theorem d_S_settle_61 : decode b_S_settle 61 = .ok (.aload_n 0, 1) := by decide +kernel
theorem d_S_settle_62 : decode b_S_settle 62 = .ok (.getfield 37, 3) := by decide +kernel
theorem d_S_settle_65 : decode b_S_settle 65 = .ok (.iload 4, 2) := by decide +kernel
theorem d_S_settle_67 : decode b_S_settle 67 = .ok (.invokevirtual 144, 3) := by decide +kernel
theorem d_S_settle_70 : decode b_S_settle 70 = .ok (.ifCond .ne 5, 3) := by decide +kernel
theorem d_S_settle_73 : decode b_S_settle 73 = .ok (.iconst (-1), 1) := by decide +kernel
theorem d_S_settle_74 : decode b_S_settle 74 = .ok (.ireturn, 1) := by decide +kernel
theorem d_S_settle_75 : decode b_S_settle 75 = .ok (.aload 5, 2) := by decide +kernel
theorem d_S_settle_77 : decode b_S_settle 77 = .ok (.getfield 100, 3) := by decide +kernel
theorem d_S_settle_80 : decode b_S_settle 80 = .ok (.aload_n 0, 1) := by decide +kernel
theorem d_S_settle_81 : decode b_S_settle 81 = .ok (.getfield 21, 3) := by decide +kernel
theorem d_S_settle_84 : decode b_S_settle 84 = .ok (.invokevirtual 45, 3) := by decide +kernel
theorem d_S_settle_87 : decode b_S_settle 87 = .ok (.invokevirtual 147, 3) := by decide +kernel
theorem d_S_settle_90 : decode b_S_settle 90 = .ok (.aload_n 0, 1) := by decide +kernel
theorem d_S_settle_91 : decode b_S_settle 91 = .ok (.getfield 21, 3) := by decide +kernel
theorem d_S_settle_94 : decode b_S_settle 94 = .ok (.new 151, 3) := by decide +kernel
theorem d_S_settle_97 : decode b_S_settle 97 = .ok (.dup, 1) := by decide +kernel
theorem d_S_settle_98 : decode b_S_settle 98 = .ok (.iload 6, 2) := by decide +kernel
theorem d_S_settle_100 : decode b_S_settle 100 = .ok (.iload 4, 2) := by decide +kernel
theorem d_S_settle_102 : decode b_S_settle 102 = .ok (.aload_n 0, 1) := by decide +kernel
theorem d_S_settle_103 : decode b_S_settle 103 = .ok (.getfield 37, 3) := by decide +kernel
theorem d_S_settle_106 : decode b_S_settle 106 = .ok (.invokespecial 153, 3) := by decide +kernel
theorem d_S_settle_109 : decode b_S_settle 109 = .ok (.invokevirtual 52, 3) := by decide +kernel
theorem d_S_settle_112 : decode b_S_settle 112 = .ok (.pop, 1) := by decide +kernel
theorem d_S_settle_113 : decode b_S_settle 113 = .ok (.aload_n 0, 1) := by decide +kernel
theorem d_S_settle_114 : decode b_S_settle 114 = .ok (.getfield 21, 3) := by decide +kernel
theorem d_S_settle_117 : decode b_S_settle 117 = .ok (.invokevirtual 45, 3) := by decide +kernel
theorem d_S_settle_120 : decode b_S_settle 120 = .ok (.ireturn, 1) := by decide +kernel
def F_S_settle (b : Nat) (a0 : Int32) (a1 : Int32) (a2 : Int32) (a3 : Int32) (mm : gM) : Option (Int32 × gM) :=
  gb1 (grc 0 (some b) mm) fun b4 =>
  gb2 (F_S_setAt b4 a0 mm) fun v1 mm2 =>
  gb2 (F_S_cellOf a1 a2 mm2) fun v6 mm7 =>
  if v1 = none then (
    some ((-1 : Int32), mm7))
  else (
    if v6 = (-1 : Int32) then (
      some ((-1 : Int32), mm7))
    else (
      gb1 (grc 0 (some b) mm7) fun b14 =>
      gb2 (F_S_tellerAt b14 a3 mm7) fun v11 mm12 =>
      if v11 = none then (
        some ((-1 : Int32), mm12))
      else (
        gb1 (gfR 0 2 (some b) mm12) fun v17 =>
        gb1 (grc 9 v17 mm12) fun b22 =>
        gb2 (F_AL_size b22  mm12) fun v19 mm20 =>
        if v19 < (40 : Int32) then (
          gb1 (gfR 4 0 v1 mm20) fun v25 =>
          gb1 (grc 0 (some b) mm20) fun b30 =>
          gb2 (F_S_findCurrent b30 v25 v6 (100000 : Int32) mm20) fun v27 mm28 =>
          gb1 (gfR 0 5 (some b) mm28) fun v32 =>
          gb1 (grc 8 v32 mm28) fun b37 =>
          gb2 (F_Current_has b37 a3 mm28) fun v34 mm35 =>
          if v34 = 0 then (
            some ((-1 : Int32), mm35))
          else (
            gb1 (gfR 4 0 v1 mm35) fun v40 =>
            gb1 (gfR 0 2 (some b) mm35) fun v42 =>
            gb1 (grc 9 v42 mm35) fun b47 =>
            gb2 (F_AL_size b47  mm35) fun v44 mm45 =>
            gb1 (grc 5 v40 mm45) fun b52 =>
            gb2 (F_Holding_takeSettling b52 v44 mm45) fun v49 mm50 =>
            gb1 (gfR 0 2 (some b) mm50) fun v54 =>
            gb2 (gnO 6 [.int 0, .int 0, .null] 3 mm50) fun v56 mm58 =>
            gb1 (gfR 0 5 (some b) mm58) fun v59 =>
            gb1 v56 fun b64 =>
            gb2 (F_Settling_init b64 v6 a3 v59 mm58) fun v61 mm62 =>
            gb1 (grc 9 v54 mm62) fun b69 =>
            gb2 (F_AL_add b69 (some b64) mm62) fun v66 mm67 =>
            gb1 (gfR 0 2 (some b) mm67) fun v71 =>
            gb1 (grc 9 v71 mm67) fun b76 =>
            gb2 (F_AL_size b76  mm67) fun v73 mm74 =>
            some (v73, mm74)))
        else (
          some ((-1 : Int32), mm20)))))
set_option maxHeartbeats 8000000 in
set_option maxRecDepth 100000 in
theorem w_S_settle {l : Launch} {E : gD} {n0 s0 : Nat} {b : Nat} {a0 : Int32} {a1 : Int32} {a2 : Int32} {a3 : Int32} {r : Int32} {mm res : gM} (h : F_S_settle b a0 a1 a2 a3 mm = some (r, res)) : xX l E Y_S_settle n0 s0 (some (.int r)) res 0 [(0, .inr (.inr (some b))), (1, .inl a0), (2, .inl a1), (3, .inl a2), (4, .inl a3)] [] mm := by
  unfold F_S_settle at h
  refine x_aloadn 0 0 d_S_settle_0 rfl rfl ?_
  refine x_iloadn 1 1 d_S_settle_1 rfl rfl ?_
  replace h := gb1_elim h; obtain ⟨b4, h5, h⟩ := h
  replace h := gb2_elim h; obtain ⟨v1, mm2, h3, h⟩ := h
  refine x_callV 2 1 (as := [.inl a0]) (st' := []) (rs := [.inr (.inr v1)]) (k_S_setAt h3) rfl cf_S_110 ⟨rfl, by decide +kernel, by decide, by decide, Nat.le_of_ble_eq_true rfl⟩ h5 rfl d_S_settle_2 ?_
  refine x_astore 5 (lv' := [(5, .inr (.inr v1)), (0, .inr (.inr (some b))), (1, .inl a0), (2, .inl a1), (3, .inl a2), (4, .inl a3)]) d_S_settle_5 (by decide) rfl ?_
  refine x_iloadn 7 3 d_S_settle_7 rfl rfl ?_
  refine x_iloadn 8 4 d_S_settle_8 rfl rfl ?_
  replace h := gb2_elim h; obtain ⟨v6, mm7, h8, h⟩ := h
  refine x_callS 9 2 (as := [.inl a1, .inl a2]) (st' := []) (rs := [.inl v6]) (k_S_cellOf h8) rfl cf_S_60 ⟨rfl, by decide +kernel, by decide, by decide, Nat.le_of_ble_eq_true rfl⟩ rfl d_S_settle_9 ?_
  refine x_istore 12 (lv' := [(6, .inl v6), (5, .inr (.inr v1)), (0, .inr (.inr (some b))), (1, .inl a0), (2, .inl a1), (3, .inl a2), (4, .inl a3)]) d_S_settle_12 (by decide) rfl ?_
  refine x_aload 14 1 d_S_settle_14 rfl ?_
  refine x_ifnull 16 46 d_S_settle_16 (by decide) (fun c9 => ?_) (fun c9 => ?_)
  · replace h := gif_t h c9
    refine x_iconst 46 d_S_settle_46 (v := (-1 : Int32)) (by decide +kernel) ?_
    cases h
    exact x_ireturn 47 rfl d_S_settle_47
  · replace h := gif_f h c9
    refine x_iload 19 0 d_S_settle_19 rfl ?_
    refine x_iconst 21 d_S_settle_21 (v := (-1 : Int32)) (by decide +kernel) ?_
    refine x_icmp_eq 22 46 d_S_settle_22 (by decide) (fun c10 => ?_) (fun c10 => ?_)
    · replace h := gif_t h c10
      refine x_iconst 46 d_S_settle_46 (v := (-1 : Int32)) (by decide +kernel) ?_
      cases h
      exact x_ireturn 47 rfl d_S_settle_47
    · replace h := gif_f h c10
      refine x_aloadn 25 2 d_S_settle_25 rfl rfl ?_
      refine x_iload 26 6 d_S_settle_26 rfl ?_
      replace h := gb1_elim h; obtain ⟨b14, h15, h⟩ := h
      replace h := gb2_elim h; obtain ⟨v11, mm12, h13, h⟩ := h
      refine x_callV 28 1 (as := [.inl a3]) (st' := []) (rs := [.inr (.inr v11)]) (k_S_tellerAt h13) rfl cf_S_56 ⟨rfl, by decide +kernel, by decide, by decide, Nat.le_of_ble_eq_true rfl⟩ h15 rfl d_S_settle_28 ?_
      refine x_ifnull 31 46 d_S_settle_31 (by decide) (fun c16 => ?_) (fun c16 => ?_)
      · replace h := gif_t h c16
        refine x_iconst 46 d_S_settle_46 (v := (-1 : Int32)) (by decide +kernel) ?_
        cases h
        exact x_ireturn 47 rfl d_S_settle_47
      · replace h := gif_f h c16
        refine x_aloadn 34 2 d_S_settle_34 rfl rfl ?_
        replace h := gb1_elim h; obtain ⟨v17, h18, h⟩ := h
        refine x_getR 35 h18 fl_S_21 d_S_settle_35 ?_
        replace h := gb1_elim h; obtain ⟨b22, h23, h⟩ := h
        replace h := gb2_elim h; obtain ⟨v19, mm20, h21, h⟩ := h
        refine x_callV 38 0 (as := []) (st' := []) (rs := [.inl v19]) (k_AL_size h21) rfl cf_S_45 ⟨rfl, by decide +kernel, by decide, by decide, Nat.le_of_ble_eq_true rfl⟩ h23 rfl d_S_settle_38 ?_
        refine x_bipush 41 d_S_settle_41 (v := (40 : Int32)) (by decide +kernel) ?_
        refine x_icmp_lt 43 48 d_S_settle_43 (by decide) (fun c24 => ?_) (fun c24 => ?_)
        · replace h := gif_t h c24
          refine x_aloadn 48 2 d_S_settle_48 rfl rfl ?_
          refine x_aload 49 1 d_S_settle_49 rfl ?_
          replace h := gb1_elim h; obtain ⟨v25, h26, h⟩ := h
          refine x_getR 51 h26 fl_S_100 d_S_settle_51 ?_
          refine x_iload 54 0 d_S_settle_54 rfl ?_
          refine x_ldc 56 d_S_settle_56 (v := (100000 : Int32)) (gT_in1 65 rfl) ?_
          replace h := gb1_elim h; obtain ⟨b30, h31, h⟩ := h
          replace h := gb2_elim h; obtain ⟨v27, mm28, h29, h⟩ := h
          refine x_callV 58 3 (as := [.inr (.inr v25), .inl v6, .inl (100000 : Int32)]) (st' := []) (rs := []) (k_S_findCurrent h29) rfl cf_S_137 ⟨rfl, by decide +kernel, by decide, by decide, Nat.le_of_ble_eq_true rfl⟩ h31 rfl d_S_settle_58 ?_
          refine x_aloadn 61 2 d_S_settle_61 rfl rfl ?_
          replace h := gb1_elim h; obtain ⟨v32, h33, h⟩ := h
          refine x_getR 62 h33 fl_S_37 d_S_settle_62 ?_
          refine x_iload 65 6 d_S_settle_65 rfl ?_
          replace h := gb1_elim h; obtain ⟨b37, h38, h⟩ := h
          replace h := gb2_elim h; obtain ⟨v34, mm35, h36, h⟩ := h
          refine x_callV 67 1 (as := [.inl a3]) (st' := []) (rs := [.inl v34]) (k_Current_has h36) rfl cf_S_144 ⟨rfl, by decide +kernel, by decide, by decide, Nat.le_of_ble_eq_true rfl⟩ h38 rfl d_S_settle_67 ?_
          refine x_if_ne 70 75 d_S_settle_70 (by decide) (fun c39 => ?_) (fun c39 => ?_)
          · replace h := gif_t h c39
            refine x_iconst 73 d_S_settle_73 (v := (-1 : Int32)) (by decide +kernel) ?_
            cases h
            exact x_ireturn 74 rfl d_S_settle_74
          · replace h := gif_f h c39
            refine x_aload 75 1 d_S_settle_75 rfl ?_
            replace h := gb1_elim h; obtain ⟨v40, h41, h⟩ := h
            refine x_getR 77 h41 fl_S_100 d_S_settle_77 ?_
            refine x_aloadn 80 2 d_S_settle_80 rfl rfl ?_
            replace h := gb1_elim h; obtain ⟨v42, h43, h⟩ := h
            refine x_getR 81 h43 fl_S_21 d_S_settle_81 ?_
            replace h := gb1_elim h; obtain ⟨b47, h48, h⟩ := h
            replace h := gb2_elim h; obtain ⟨v44, mm45, h46, h⟩ := h
            refine x_callV 84 0 (as := []) (st' := [.inr (.inr v40)]) (rs := [.inl v44]) (k_AL_size h46) rfl cf_S_45 ⟨rfl, by decide +kernel, by decide, by decide, Nat.le_of_ble_eq_true rfl⟩ h48 rfl d_S_settle_84 ?_
            replace h := gb1_elim h; obtain ⟨b52, h53, h⟩ := h
            replace h := gb2_elim h; obtain ⟨v49, mm50, h51, h⟩ := h
            refine x_callV 87 1 (as := [.inl v44]) (st' := []) (rs := []) (k_Holding_takeSettling h51) rfl cf_S_147 ⟨rfl, by decide +kernel, by decide, by decide, Nat.le_of_ble_eq_true rfl⟩ h53 rfl d_S_settle_87 ?_
            refine x_aloadn 90 2 d_S_settle_90 rfl rfl ?_
            replace h := gb1_elim h; obtain ⟨v54, h55, h⟩ := h
            refine x_getR 91 h55 fl_S_21 d_S_settle_91 ?_
            replace h := gb2_elim h; obtain ⟨v56, mm58, h57, h⟩ := h
            refine x_new 94 nw_S_151 h57 d_S_settle_94 ?_
            refine x_dup 97 d_S_settle_97 rfl ?_
            refine x_iload 98 0 d_S_settle_98 rfl ?_
            refine x_iload 100 6 d_S_settle_100 rfl ?_
            refine x_aloadn 102 2 d_S_settle_102 rfl rfl ?_
            replace h := gb1_elim h; obtain ⟨v59, h60, h⟩ := h
            refine x_getR 103 h60 fl_S_37 d_S_settle_103 ?_
            replace h := gb1_elim h; obtain ⟨b64, h65, h⟩ := h
            subst h65
            replace h := gb2_elim h; obtain ⟨v61, mm62, h63, h⟩ := h
            refine x_callI 106 3 (as := [.inl v6, .inl a3, .inr (.inr v59)]) (st' := [.inr (.inr (some b64)), .inr (.inr v54)]) (k_Settling_init h63) cf_S_153 ⟨rfl, by decide +kernel, by decide, by decide, Nat.le_of_ble_eq_true rfl⟩ rfl d_S_settle_106 ?_
            replace h := gb1_elim h; obtain ⟨b69, h70, h⟩ := h
            replace h := gb2_elim h; obtain ⟨v66, mm67, h68, h⟩ := h
            refine x_callV 109 1 (as := [.inr (.inr (some b64))]) (st' := []) (rs := [.inl v66]) (k_AL_add h68) rfl cf_S_52 ⟨rfl, by decide +kernel, by decide, by decide, Nat.le_of_ble_eq_true rfl⟩ h70 rfl d_S_settle_109 ?_
            refine x_pop 112 d_S_settle_112 rfl ?_
            refine x_aloadn 113 2 d_S_settle_113 rfl rfl ?_
            replace h := gb1_elim h; obtain ⟨v71, h72, h⟩ := h
            refine x_getR 114 h72 fl_S_21 d_S_settle_114 ?_
            replace h := gb1_elim h; obtain ⟨b76, h77, h⟩ := h
            replace h := gb2_elim h; obtain ⟨v73, mm74, h75, h⟩ := h
            refine x_callV 117 0 (as := []) (st' := []) (rs := [.inl v73]) (k_AL_size h75) rfl cf_S_45 ⟨rfl, by decide +kernel, by decide, by decide, Nat.le_of_ble_eq_true rfl⟩ h77 rfl d_S_settle_117 ?_
            cases h
            exact x_ireturn 120 rfl d_S_settle_120
        · replace h := gif_f h c24
          refine x_iconst 46 d_S_settle_46 (v := (-1 : Int32)) (by decide +kernel) ?_
          cases h
          exact x_ireturn 47 rfl d_S_settle_47
theorem k_S_settle {b : Nat} {a0 : Int32} {a1 : Int32} {a2 : Int32} {a3 : Int32} {r : Int32} {mm res : gM} (h : F_S_settle b a0 a1 a2 a3 mm = some (r, res)) : ∀ (l : Launch) (E : gD), gLe mm res ∧ gMet l E Y_S_settle y_S_settle [.inr (.inr (some b)), .inl a0, .inl a1, .inl a2, .inl a3] (some (.int r)) mm res :=
  fun l E => ⟨(w_S_settle (l := l) (E := E) (n0 := 0) (s0 := 0) h).1, x_met (by decide +kernel) rfl rfl rfl (Nat.le_of_ble_eq_true rfl) (w_S_settle h)⟩
theorem d_M_settle_0 : decode b_M_settle 0 = .ok (.aload_n 0, 1) := by decide +kernel
theorem d_M_settle_1 : decode b_M_settle 1 = .ok (.iload_n 1, 1) := by decide +kernel
theorem d_M_settle_2 : decode b_M_settle 2 = .ok (.invokevirtual 133, 3) := by decide +kernel
theorem d_M_settle_5 : decode b_M_settle 5 = .ok (.ifCond .eq 12, 3) := by decide +kernel
theorem d_M_settle_8 : decode b_M_settle 8 = .ok (.aload_n 0, 1) := by decide +kernel
theorem d_M_settle_9 : decode b_M_settle 9 = .ok (.getfield 126, 3) := by decide +kernel
theorem d_M_settle_12 : decode b_M_settle 12 = .ok (.bipush 40, 2) := by decide +kernel
theorem d_M_settle_14 : decode b_M_settle 14 = .ok (.if_icmp .ne 5, 3) := by decide +kernel
theorem d_M_settle_17 : decode b_M_settle 17 = .ok (.iconst (-1), 1) := by decide +kernel
theorem d_M_settle_18 : decode b_M_settle 18 = .ok (.ireturn, 1) := by decide +kernel
theorem d_M_settle_19 : decode b_M_settle 19 = .ok (.aload_n 0, 1) := by decide +kernel
theorem d_M_settle_20 : decode b_M_settle 20 = .ok (.iload_n 1, 1) := by decide +kernel
theorem d_M_settle_21 : decode b_M_settle 21 = .ok (.iload_n 2, 1) := by decide +kernel
theorem d_M_settle_22 : decode b_M_settle 22 = .ok (.iload_n 3, 1) := by decide +kernel
theorem d_M_settle_23 : decode b_M_settle 23 = .ok (.ldc 140, 2) := by decide +kernel
theorem d_M_settle_25 : decode b_M_settle 25 = .ok (.invokevirtual 120, 3) := by decide +kernel
theorem d_M_settle_28 : decode b_M_settle 28 = .ok (.istore 5, 2) := by decide +kernel
theorem d_M_settle_30 : decode b_M_settle 30 = .ok (.iconst 0, 1) := by decide +kernel
theorem d_M_settle_31 : decode b_M_settle 31 = .ok (.istore 6, 2) := by decide +kernel
theorem d_M_settle_33 : decode b_M_settle 33 = .ok (.iconst 0, 1) := by decide +kernel
theorem d_M_settle_34 : decode b_M_settle 34 = .ok (.istore 7, 2) := by decide +kernel
theorem d_M_settle_36 : decode b_M_settle 36 = .ok (.iload 7, 2) := by decide +kernel
theorem d_M_settle_38 : decode b_M_settle 38 = .ok (.aload_n 0, 1) := by decide +kernel
theorem d_M_settle_39 : decode b_M_settle 39 = .ok (.getfield 89, 3) := by decide +kernel
theorem d_M_settle_42 : decode b_M_settle 42 = .ok (.if_icmp .ge 48, 3) := by decide +kernel
theorem d_M_settle_45 : decode b_M_settle 45 = .ok (.iload 5, 2) := by decide +kernel
theorem d_M_settle_47 : decode b_M_settle 47 = .ok (.ifCond .le 43, 3) := by decide +kernel
theorem d_M_settle_50 : decode b_M_settle 50 = .ok (.iload 6, 2) := by decide +kernel
theorem d_M_settle_52 : decode b_M_settle 52 = .ok (.ifCond .ne 25, 3) := by decide +kernel
theorem d_M_settle_55 : decode b_M_settle 55 = .ok (.aload_n 0, 1) := by decide +kernel
theorem d_M_settle_56 : decode b_M_settle 56 = .ok (.getfield 79, 3) := by decide +kernel
theorem d_M_settle_59 : decode b_M_settle 59 = .ok (.iload 7, 2) := by decide +kernel
theorem d_M_settle_61 : decode b_M_settle 61 = .ok (.baload, 1) := by decide +kernel
theorem d_M_settle_62 : decode b_M_settle 62 = .ok (.ifCond .eq 19, 3) := by decide +kernel
theorem d_M_settle_65 : decode b_M_settle 65 = .ok (.aload_n 0, 1) := by decide +kernel
theorem d_M_settle_66 : decode b_M_settle 66 = .ok (.getfield 13, 3) := by decide +kernel
theorem d_M_settle_69 : decode b_M_settle 69 = .ok (.iload 7, 2) := by decide +kernel
theorem d_M_settle_71 : decode b_M_settle 71 = .ok (.iaload, 1) := by decide +kernel
theorem d_M_settle_72 : decode b_M_settle 72 = .ok (.iload 4, 2) := by decide +kernel
theorem d_M_settle_74 : decode b_M_settle 74 = .ok (.if_icmp .ne 7, 3) := by decide +kernel
theorem d_M_settle_77 : decode b_M_settle 77 = .ok (.iconst 1, 1) := by decide +kernel
theorem d_M_settle_78 : decode b_M_settle 78 = .ok (.goto 4, 3) := by decide +kernel
theorem d_M_settle_81 : decode b_M_settle 81 = .ok (.iconst 0, 1) := by decide +kernel
theorem d_M_settle_82 : decode b_M_settle 82 = .ok (.istore 6, 2) := by decide +kernel
theorem d_M_settle_84 : decode b_M_settle 84 = .ok (.iinc 7 1, 3) := by decide +kernel
theorem d_M_settle_87 : decode b_M_settle 87 = .ok (.goto (-51), 3) := by decide +kernel
theorem d_M_settle_90 : decode b_M_settle 90 = .ok (.iload 6, 2) := by decide +kernel
theorem d_M_settle_92 : decode b_M_settle 92 = .ok (.ifCond .ne 5, 3) := by decide +kernel
theorem d_M_settle_95 : decode b_M_settle 95 = .ok (.iconst (-1), 1) := by decide +kernel
theorem d_M_settle_96 : decode b_M_settle 96 = .ok (.ireturn, 1) := by decide +kernel
theorem d_M_settle_97 : decode b_M_settle 97 = .ok (.aload_n 0, 1) := by decide +kernel
theorem d_M_settle_98 : decode b_M_settle 98 = .ok (.getfield 42, 3) := by decide +kernel
theorem d_M_settle_101 : decode b_M_settle 101 = .ok (.aload_n 0, 1) := by decide +kernel
theorem d_M_settle_102 : decode b_M_settle 102 = .ok (.getfield 126, 3) := by decide +kernel
theorem d_M_settle_105 : decode b_M_settle 105 = .ok (.iload_n 2, 1) := by decide +kernel
theorem d_M_settle_106 : decode b_M_settle 106 = .ok (.iastore, 1) := by decide +kernel
theorem d_M_settle_107 : decode b_M_settle 107 = .ok (.aload_n 0, 1) := by decide +kernel
theorem d_M_settle_108 : decode b_M_settle 108 = .ok (.getfield 45, 3) := by decide +kernel
theorem d_M_settle_111 : decode b_M_settle 111 = .ok (.aload_n 0, 1) := by decide +kernel
theorem d_M_settle_112 : decode b_M_settle 112 = .ok (.getfield 126, 3) := by decide +kernel
theorem d_M_settle_115 : decode b_M_settle 115 = .ok (.iload_n 3, 1) := by decide +kernel
theorem d_M_settle_116 : decode b_M_settle 116 = .ok (.iastore, 1) := by decide +kernel
theorem d_M_settle_117 : decode b_M_settle 117 = .ok (.aload_n 0, 1) := by decide +kernel
theorem d_M_settle_118 : decode b_M_settle 118 = .ok (.getfield 48, 3) := by decide +kernel
theorem d_M_settle_121 : decode b_M_settle 121 = .ok (.aload_n 0, 1) := by decide +kernel
theorem d_M_settle_122 : decode b_M_settle 122 = .ok (.getfield 126, 3) := by decide +kernel
theorem d_M_settle_125 : decode b_M_settle 125 = .ok (.iload 4, 2) := by decide +kernel
theorem d_M_settle_127 : decode b_M_settle 127 = .ok (.iastore, 1) := by decide +kernel
theorem d_M_settle_128 : decode b_M_settle 128 = .ok (.iconst 0, 1) := by decide +kernel
theorem d_M_settle_129 : decode b_M_settle 129 = .ok (.istore 7, 2) := by decide +kernel
theorem d_M_settle_131 : decode b_M_settle 131 = .ok (.iload 7, 2) := by decide +kernel
theorem d_M_settle_133 : decode b_M_settle 133 = .ok (.aload_n 0, 1) := by decide +kernel
theorem d_M_settle_134 : decode b_M_settle 134 = .ok (.getfield 89, 3) := by decide +kernel
theorem d_M_settle_137 : decode b_M_settle 137 = .ok (.if_icmp .ge 32, 3) := by decide +kernel
theorem d_M_settle_140 : decode b_M_settle 140 = .ok (.aload_n 0, 1) := by decide +kernel
theorem d_M_settle_141 : decode b_M_settle 141 = .ok (.getfield 51, 3) := by decide +kernel
theorem d_M_settle_144 : decode b_M_settle 144 = .ok (.sipush 200, 3) := by decide +kernel
theorem d_M_settle_147 : decode b_M_settle 147 = .ok (.aload_n 0, 1) := by decide +kernel
theorem d_M_settle_148 : decode b_M_settle 148 = .ok (.getfield 126, 3) := by decide +kernel
theorem d_M_settle_151 : decode b_M_settle 151 = .ok (.imul, 1) := by decide +kernel
theorem d_M_settle_152 : decode b_M_settle 152 = .ok (.iload 7, 2) := by decide +kernel
theorem d_M_settle_154 : decode b_M_settle 154 = .ok (.iadd, 1) := by decide +kernel
theorem d_M_settle_155 : decode b_M_settle 155 = .ok (.aload_n 0, 1) := by decide +kernel
theorem d_M_settle_156 : decode b_M_settle 156 = .ok (.getfield 79, 3) := by decide +kernel
theorem d_M_settle_159 : decode b_M_settle 159 = .ok (.iload 7, 2) := by decide +kernel
theorem d_M_settle_161 : decode b_M_settle 161 = .ok (.baload, 1) := by decide +kernel
theorem d_M_settle_162 : decode b_M_settle 162 = .ok (.bastore, 1) := by decide +kernel
theorem d_M_settle_163 : decode b_M_settle 163 = .ok (.iinc 7 1, 3) := by decide +kernel
theorem d_M_settle_166 : decode b_M_settle 166 = .ok (.goto (-35), 3) := by decide +kernel
theorem d_M_settle_169 : decode b_M_settle 169 = .ok (.aload_n 0, 1) := by decide +kernel
theorem d_M_settle_170 : decode b_M_settle 170 = .ok (.getfield 36, 3) := by decide +kernel
theorem d_M_settle_173 : decode b_M_settle 173 = .ok (.bipush 40, 2) := by decide +kernel
theorem d_M_settle_175 : decode b_M_settle 175 = .ok (.iload_n 1, 1) := by decide +kernel
theorem d_M_settle_176 : decode b_M_settle 176 = .ok (.imul, 1) := by decide +kernel
theorem d_M_settle_177 : decode b_M_settle 177 = .ok (.aload_n 0, 1) := by decide +kernel
theorem d_M_settle_178 : decode b_M_settle 178 = .ok (.getfield 126, 3) := by decide +kernel
theorem d_M_settle_181 : decode b_M_settle 181 = .ok (.iadd, 1) := by decide +kernel
theorem d_M_settle_182 : decode b_M_settle 182 = .ok (.iconst 1, 1) := by decide +kernel
theorem d_M_settle_183 : decode b_M_settle 183 = .ok (.bastore, 1) := by decide +kernel
theorem d_M_settle_184 : decode b_M_settle 184 = .ok (.aload_n 0, 1) := by decide +kernel
theorem d_M_settle_185 : decode b_M_settle 185 = .ok (.dup, 1) := by decide +kernel
theorem d_M_settle_186 : decode b_M_settle 186 = .ok (.getfield 126, 3) := by decide +kernel
theorem d_M_settle_189 : decode b_M_settle 189 = .ok (.iconst 1, 1) := by decide +kernel
theorem d_M_settle_190 : decode b_M_settle 190 = .ok (.iadd, 1) := by decide +kernel
theorem d_M_settle_191 : decode b_M_settle 191 = .ok (.putfield 126, 3) := by decide +kernel
theorem d_M_settle_194 : decode b_M_settle 194 = .ok (.aload_n 0, 1) := by decide +kernel
theorem d_M_settle_195 : decode b_M_settle 195 = .ok (.getfield 126, 3) := by decide +kernel
theorem d_M_settle_198 : decode b_M_settle 198 = .ok (.ireturn, 1) := by decide +kernel
def L_M_settle_36 (k90 : Option Nat → Int32 → Int32 → Int32 → Int32 → Int32 → gM → Option (Int32 × gM)) : Nat → Option Nat → Int32 → Int32 → Int32 → Int32 → Int32 → Int32 → Int32 → gM → Option (Int32 × gM)
  | 0, _, _, _, _, _, _, _, _, _ => none
  | f + 1, p0, p1, p2, p3, p4, p5, p6, p7, mm =>
    gb1 (gfI 10 2 p0 mm) fun v15 =>
    if v15 ≤ p7 then (
      k90 p0 p1 p2 p3 p4 p6 mm)
    else (
      if p5 ≤ 0 then (
        k90 p0 p1 p2 p3 p4 p6 mm)
      else (
        if p6 = 0 then (
          gb1 (gfR 10 26 p0 mm) fun v20 =>
          gb1 (gaI 2 v20 p7 mm) fun v22 =>
          if v22 = 0 then (
            gLet (p7 + 1) fun x25 =>
            L_M_settle_36 k90 f p0 p1 p2 p3 p4 p5 (0 : Int32) x25 mm)
          else (
            gb1 (gfR 10 3 p0 mm) fun v26 =>
            gb1 (gaI 0 v26 p7 mm) fun v28 =>
            if v28 = p4 then (
              gLet (p7 + 1) fun x31 =>
              L_M_settle_36 k90 f p0 p1 p2 p3 p4 p5 (1 : Int32) x31 mm)
            else (
              gLet (p7 + 1) fun x32 =>
              L_M_settle_36 k90 f p0 p1 p2 p3 p4 p5 (0 : Int32) x32 mm)))
        else (
          gLet (p7 + 1) fun x33 =>
          L_M_settle_36 k90 f p0 p1 p2 p3 p4 p5 (1 : Int32) x33 mm)))
set_option maxHeartbeats 4000000 in
set_option maxRecDepth 100000 in
theorem wL_M_settle_36 {l : Launch} {E : gD} {n0 s0 : Nat} {r : Int32} {res : gM} {k90 : Option Nat → Int32 → Int32 → Int32 → Int32 → Int32 → gM → Option (Int32 × gM)} (hk90 : ∀ (p0 : Option Nat) (p1 : Int32) (p2 : Int32) (p3 : Int32) (p4 : Int32) (p6 : Int32) (mm : gM), k90 p0 p1 p2 p3 p4 p6 mm = some (r, res) → xX l E Y_M_settle n0 s0 (some (.int r)) res 90 [(0, .inr (.inr p0)), (1, .inl p1), (2, .inl p2), (3, .inl p3), (4, .inl p4), (6, .inl p6)] [] mm) : ∀ (f : Nat) (p0 : Option Nat) (p1 : Int32) (p2 : Int32) (p3 : Int32) (p4 : Int32) (p5 : Int32) (p6 : Int32) (p7 : Int32) (mm : gM), L_M_settle_36 k90 f p0 p1 p2 p3 p4 p5 p6 p7 mm = some (r, res) → xX l E Y_M_settle n0 s0 (some (.int r)) res 36 [(0, .inr (.inr p0)), (1, .inl p1), (2, .inl p2), (3, .inl p3), (4, .inl p4), (5, .inl p5), (6, .inl p6), (7, .inl p7)] [] mm := by
  intro f
  induction f with
  | zero =>
    intro p0 p1 p2 p3 p4 p5 p6 p7 mm h
    rw [L_M_settle_36] at h
    cases h
  | succ f ih =>
    intro p0 p1 p2 p3 p4 p5 p6 p7 mm h
    rw [L_M_settle_36] at h
    refine x_iload 36 7 d_M_settle_36 rfl ?_
    refine x_aloadn 38 0 d_M_settle_38 rfl rfl ?_
    replace h := gb1_elim h; obtain ⟨v15, h16, h⟩ := h
    refine x_getI 39 h16 fl_M_89 d_M_settle_39 ?_
    refine x_icmp_ge 42 90 d_M_settle_42 (by decide) (fun c17 => ?_) (fun c17 => ?_)
    · replace h := gif_t h c17
      refine x_sub [0, 1, 2, 3, 4, 6] rfl ?_
      exact hk90 _ _ _ _ _ _ _ h
    · replace h := gif_f h c17
      refine x_iload 45 5 d_M_settle_45 rfl ?_
      refine x_if_le 47 90 d_M_settle_47 (by decide) (fun c18 => ?_) (fun c18 => ?_)
      · replace h := gif_t h c18
        refine x_sub [0, 1, 2, 3, 4, 6] rfl ?_
        exact hk90 _ _ _ _ _ _ _ h
      · replace h := gif_f h c18
        refine x_iload 50 6 d_M_settle_50 rfl ?_
        refine x_if_ne 52 77 d_M_settle_52 (by decide) (fun c19 => ?_) (fun c19 => ?_)
        · replace h := gif_t h c19
          refine x_aloadn 55 0 d_M_settle_55 rfl rfl ?_
          replace h := gb1_elim h; obtain ⟨v20, h21, h⟩ := h
          refine x_getR 56 h21 fl_M_79 d_M_settle_56 ?_
          refine x_iload 59 7 d_M_settle_59 rfl ?_
          replace h := gb1_elim h; obtain ⟨v22, h23, h⟩ := h
          refine x_zald 61 rfl h23 d_M_settle_61 ?_
          refine x_if_eq 62 81 d_M_settle_62 (by decide) (fun c24 => ?_) (fun c24 => ?_)
          · replace h := gif_t h c24
            refine x_iconst 81 d_M_settle_81 (v := (0 : Int32)) (by decide +kernel) ?_
            refine x_istore 82 (lv' := [(6, .inl (0 : Int32)), (0, .inr (.inr p0)), (1, .inl p1), (2, .inl p2), (3, .inl p3), (4, .inl p4), (5, .inl p5), (7, .inl p7)]) d_M_settle_82 (by decide) rfl ?_
            replace h := gLet_elim h; obtain ⟨x25, ex25, h⟩ := h
            refine x_iinc 84 7 (v := x25) (lv' := [(7, .inl x25), (6, .inl (0 : Int32)), (0, .inr (.inr p0)), (1, .inl p1), (2, .inl p2), (3, .inl p3), (4, .inl p4), (5, .inl p5)]) d_M_settle_84 rfl (by rw [ex25]; rfl) (by decide) rfl ?_
            refine x_goto 87 36 d_M_settle_87 (by decide) ?_
            refine x_sub [2, 3, 4, 5, 6, 7, 1, 0] rfl ?_
            exact ih _ _ _ _ _ _ _ _ _ h
          · replace h := gif_f h c24
            refine x_aloadn 65 0 d_M_settle_65 rfl rfl ?_
            replace h := gb1_elim h; obtain ⟨v26, h27, h⟩ := h
            refine x_getR 66 h27 fl_M_13 d_M_settle_66 ?_
            refine x_iload 69 7 d_M_settle_69 rfl ?_
            replace h := gb1_elim h; obtain ⟨v28, h29, h⟩ := h
            refine x_iald 71 rfl h29 d_M_settle_71 ?_
            refine x_iload 72 4 d_M_settle_72 rfl ?_
            refine x_icmp_ne 74 81 d_M_settle_74 (by decide) (fun c30 => ?_) (fun c30 => ?_)
            · replace h := gif_t h c30
              refine x_iconst 77 d_M_settle_77 (v := (1 : Int32)) (by decide +kernel) ?_
              refine x_goto 78 82 d_M_settle_78 (by decide) ?_
              refine x_istore 82 (lv' := [(6, .inl (1 : Int32)), (0, .inr (.inr p0)), (1, .inl p1), (2, .inl p2), (3, .inl p3), (4, .inl p4), (5, .inl p5), (7, .inl p7)]) d_M_settle_82 (by decide) rfl ?_
              replace h := gLet_elim h; obtain ⟨x31, ex31, h⟩ := h
              refine x_iinc 84 7 (v := x31) (lv' := [(7, .inl x31), (6, .inl (1 : Int32)), (0, .inr (.inr p0)), (1, .inl p1), (2, .inl p2), (3, .inl p3), (4, .inl p4), (5, .inl p5)]) d_M_settle_84 rfl (by rw [ex31]; rfl) (by decide) rfl ?_
              refine x_goto 87 36 d_M_settle_87 (by decide) ?_
              refine x_sub [2, 3, 4, 5, 6, 7, 1, 0] rfl ?_
              exact ih _ _ _ _ _ _ _ _ _ h
            · replace h := gif_f h c30
              refine x_iconst 81 d_M_settle_81 (v := (0 : Int32)) (by decide +kernel) ?_
              refine x_istore 82 (lv' := [(6, .inl (0 : Int32)), (0, .inr (.inr p0)), (1, .inl p1), (2, .inl p2), (3, .inl p3), (4, .inl p4), (5, .inl p5), (7, .inl p7)]) d_M_settle_82 (by decide) rfl ?_
              replace h := gLet_elim h; obtain ⟨x32, ex32, h⟩ := h
              refine x_iinc 84 7 (v := x32) (lv' := [(7, .inl x32), (6, .inl (0 : Int32)), (0, .inr (.inr p0)), (1, .inl p1), (2, .inl p2), (3, .inl p3), (4, .inl p4), (5, .inl p5)]) d_M_settle_84 rfl (by rw [ex32]; rfl) (by decide) rfl ?_
              refine x_goto 87 36 d_M_settle_87 (by decide) ?_
              refine x_sub [2, 3, 4, 5, 6, 7, 1, 0] rfl ?_
              exact ih _ _ _ _ _ _ _ _ _ h
        · replace h := gif_f h c19
          refine x_iconst 77 d_M_settle_77 (v := (1 : Int32)) (by decide +kernel) ?_
          refine x_goto 78 82 d_M_settle_78 (by decide) ?_
          refine x_istore 82 (lv' := [(6, .inl (1 : Int32)), (0, .inr (.inr p0)), (1, .inl p1), (2, .inl p2), (3, .inl p3), (4, .inl p4), (5, .inl p5), (7, .inl p7)]) d_M_settle_82 (by decide) rfl ?_
          replace h := gLet_elim h; obtain ⟨x33, ex33, h⟩ := h
          refine x_iinc 84 7 (v := x33) (lv' := [(7, .inl x33), (6, .inl (1 : Int32)), (0, .inr (.inr p0)), (1, .inl p1), (2, .inl p2), (3, .inl p3), (4, .inl p4), (5, .inl p5)]) d_M_settle_84 rfl (by rw [ex33]; rfl) (by decide) rfl ?_
          refine x_goto 87 36 d_M_settle_87 (by decide) ?_
          refine x_sub [2, 3, 4, 5, 6, 7, 1, 0] rfl ?_
          exact ih _ _ _ _ _ _ _ _ _ h
def L_M_settle_131 (k169 : Option Nat → Int32 → gM → Option (Int32 × gM)) : Nat → Option Nat → Int32 → Int32 → gM → Option (Int32 × gM)
  | 0, _, _, _, _ => none
  | f + 1, p0, p1, p7, mm =>
    gb1 (gfI 10 2 p0 mm) fun v53 =>
    if v53 ≤ p7 then (
      k169 p0 p1 mm)
    else (
      gb1 (gfR 10 17 p0 mm) fun v56 =>
      gb1 (gfI 10 13 p0 mm) fun v58 =>
      gb1 (gfR 10 26 p0 mm) fun v60 =>
      gb1 (gaI 2 v60 p7 mm) fun v62 =>
      gIf (v62 = 0 ∨ v62 = 1) (
      gb1 (gsI 2 v56 (((200 : Int32) * v58) + p7) v62 mm) fun mm64 =>
      gLet (p7 + 1) fun x67 =>
      L_M_settle_131 k169 f p0 p1 x67 mm64))
set_option maxHeartbeats 4000000 in
set_option maxRecDepth 100000 in
theorem wL_M_settle_131 {l : Launch} {E : gD} {n0 s0 : Nat} {r : Int32} {res : gM} {k169 : Option Nat → Int32 → gM → Option (Int32 × gM)} (hk169 : ∀ (p0 : Option Nat) (p1 : Int32) (mm : gM), k169 p0 p1 mm = some (r, res) → xX l E Y_M_settle n0 s0 (some (.int r)) res 169 [(0, .inr (.inr p0)), (1, .inl p1)] [] mm) : ∀ (f : Nat) (p0 : Option Nat) (p1 : Int32) (p7 : Int32) (mm : gM), L_M_settle_131 k169 f p0 p1 p7 mm = some (r, res) → xX l E Y_M_settle n0 s0 (some (.int r)) res 131 [(0, .inr (.inr p0)), (1, .inl p1), (7, .inl p7)] [] mm := by
  intro f
  induction f with
  | zero =>
    intro p0 p1 p7 mm h
    rw [L_M_settle_131] at h
    cases h
  | succ f ih =>
    intro p0 p1 p7 mm h
    rw [L_M_settle_131] at h
    refine x_iload 131 2 d_M_settle_131 rfl ?_
    refine x_aloadn 133 0 d_M_settle_133 rfl rfl ?_
    replace h := gb1_elim h; obtain ⟨v53, h54, h⟩ := h
    refine x_getI 134 h54 fl_M_89 d_M_settle_134 ?_
    refine x_icmp_ge 137 169 d_M_settle_137 (by decide) (fun c55 => ?_) (fun c55 => ?_)
    · replace h := gif_t h c55
      refine x_sub [0, 1] rfl ?_
      exact hk169 _ _ _ h
    · replace h := gif_f h c55
      refine x_aloadn 140 0 d_M_settle_140 rfl rfl ?_
      replace h := gb1_elim h; obtain ⟨v56, h57, h⟩ := h
      refine x_getR 141 h57 fl_M_51 d_M_settle_141 ?_
      refine x_sipush 144 d_M_settle_144 (v := (200 : Int32)) (by decide +kernel) ?_
      refine x_aloadn 147 0 d_M_settle_147 rfl rfl ?_
      replace h := gb1_elim h; obtain ⟨v58, h59, h⟩ := h
      refine x_getI 148 h59 fl_M_126 d_M_settle_148 ?_
      refine x_imul 151 d_M_settle_151 ?_
      refine x_iload 152 2 d_M_settle_152 rfl ?_
      refine x_iadd 154 d_M_settle_154 ?_
      refine x_aloadn 155 0 d_M_settle_155 rfl rfl ?_
      replace h := gb1_elim h; obtain ⟨v60, h61, h⟩ := h
      refine x_getR 156 h61 fl_M_79 d_M_settle_156 ?_
      refine x_iload 159 2 d_M_settle_159 rfl ?_
      replace h := gb1_elim h; obtain ⟨v62, h63, h⟩ := h
      refine x_zald 161 rfl h63 d_M_settle_161 ?_
      replace h := gIf_elim h; obtain ⟨c66, h⟩ := h
      replace h := gb1_elim h; obtain ⟨mm64, h65, h⟩ := h
      refine x_zast 162 c66 (by decide) rfl h65 d_M_settle_162 ?_
      replace h := gLet_elim h; obtain ⟨x67, ex67, h⟩ := h
      refine x_iinc 163 2 (v := x67) (lv' := [(7, .inl x67), (0, .inr (.inr p0)), (1, .inl p1)]) d_M_settle_163 rfl (by rw [ex67]; rfl) (by decide) rfl ?_
      refine x_goto 166 131 d_M_settle_166 (by decide) ?_
      refine x_sub [1, 2, 0] rfl ?_
      exact ih _ _ _ _ h
def F_M_settle (b : Nat) (a0 : Int32) (a1 : Int32) (a2 : Int32) (a3 : Int32) (mm : gM) : Option (Int32 × gM) :=
  gb1 (grc 10 (some b) mm) fun b4 =>
  gb2 (F_M_isSet b4 a0 mm) fun v1 mm2 =>
  if v1 = 0 then (
    some ((-1 : Int32), mm2))
  else (
    gb1 (gfI 10 13 (some b) mm2) fun v7 =>
    if v7 = (40 : Int32) then (
      some ((-1 : Int32), mm2))
    else (
      gb1 (grc 10 (some b) mm2) fun b13 =>
      gb2 (F_M_findCurrent b13 a0 a1 a2 (100000 : Int32) mm2) fun v10 mm11 =>
      L_M_settle_36 (fun p0 p1 p2 p3 p4 p6 mm =>
        if p6 = 0 then (
          some ((-1 : Int32), mm))
        else (
          gb1 (gfR 10 14 p0 mm) fun v35 =>
          gb1 (gfI 10 13 p0 mm) fun v37 =>
          gb1 (gsI 0 v35 v37 p2 mm) fun mm39 =>
          gb1 (gfR 10 15 p0 mm39) fun v41 =>
          gb1 (gfI 10 13 p0 mm39) fun v43 =>
          gb1 (gsI 0 v41 v43 p3 mm39) fun mm45 =>
          gb1 (gfR 10 16 p0 mm45) fun v47 =>
          gb1 (gfI 10 13 p0 mm45) fun v49 =>
          gb1 (gsI 0 v47 v49 p4 mm45) fun mm51 =>
          L_M_settle_131 (fun p0 p1 mm =>
            gb1 (gfR 10 11 p0 mm) fun v68 =>
            gb1 (gfI 10 13 p0 mm) fun v70 =>
            gb1 (gsI 2 v68 (((40 : Int32) * p1) + v70) (1 : Int32) mm) fun mm72 =>
            gb1 (gfI 10 13 p0 mm72) fun v74 =>
            gb1 (gpV 10 13 p0 (.int (v74 + (1 : Int32))) mm72) fun mm76 =>
            gb1 (gfI 10 13 p0 mm76) fun v78 =>
            some (v78, mm76)) gF p0 p1 (0 : Int32) mm51)) gF (some b) a0 a1 a2 a3 v10 (0 : Int32) (0 : Int32) mm11))
set_option maxHeartbeats 8000000 in
set_option maxRecDepth 100000 in
theorem w_M_settle {l : Launch} {E : gD} {n0 s0 : Nat} {b : Nat} {a0 : Int32} {a1 : Int32} {a2 : Int32} {a3 : Int32} {r : Int32} {mm res : gM} (h : F_M_settle b a0 a1 a2 a3 mm = some (r, res)) : xX l E Y_M_settle n0 s0 (some (.int r)) res 0 [(0, .inr (.inr (some b))), (1, .inl a0), (2, .inl a1), (3, .inl a2), (4, .inl a3)] [] mm := by
  unfold F_M_settle at h
  refine x_aloadn 0 0 d_M_settle_0 rfl rfl ?_
  refine x_iloadn 1 1 d_M_settle_1 rfl rfl ?_
  replace h := gb1_elim h; obtain ⟨b4, h5, h⟩ := h
  replace h := gb2_elim h; obtain ⟨v1, mm2, h3, h⟩ := h
  refine x_callV 2 1 (as := [.inl a0]) (st' := []) (rs := [.inl v1]) (k_M_isSet h3) rfl cf_M_133 ⟨rfl, by decide +kernel, by decide, by decide, Nat.le_of_ble_eq_true rfl⟩ h5 rfl d_M_settle_2 ?_
  refine x_if_eq 5 17 d_M_settle_5 (by decide) (fun c6 => ?_) (fun c6 => ?_)
  · replace h := gif_t h c6
    refine x_iconst 17 d_M_settle_17 (v := (-1 : Int32)) (by decide +kernel) ?_
    cases h
    exact x_ireturn 18 rfl d_M_settle_18
  · replace h := gif_f h c6
    refine x_aloadn 8 0 d_M_settle_8 rfl rfl ?_
    replace h := gb1_elim h; obtain ⟨v7, h8, h⟩ := h
    refine x_getI 9 h8 fl_M_126 d_M_settle_9 ?_
    refine x_bipush 12 d_M_settle_12 (v := (40 : Int32)) (by decide +kernel) ?_
    refine x_icmp_ne 14 19 d_M_settle_14 (by decide) (fun c9 => ?_) (fun c9 => ?_)
    · replace h := gif_t h c9
      refine x_iconst 17 d_M_settle_17 (v := (-1 : Int32)) (by decide +kernel) ?_
      cases h
      exact x_ireturn 18 rfl d_M_settle_18
    · replace h := gif_f h c9
      refine x_aloadn 19 0 d_M_settle_19 rfl rfl ?_
      refine x_iloadn 20 1 d_M_settle_20 rfl rfl ?_
      refine x_iloadn 21 2 d_M_settle_21 rfl rfl ?_
      refine x_iloadn 22 3 d_M_settle_22 rfl rfl ?_
      refine x_ldc 23 d_M_settle_23 (v := (100000 : Int32)) (gT_in4 25 rfl) ?_
      replace h := gb1_elim h; obtain ⟨b13, h14, h⟩ := h
      replace h := gb2_elim h; obtain ⟨v10, mm11, h12, h⟩ := h
      refine x_callV 25 4 (as := [.inl a0, .inl a1, .inl a2, .inl (100000 : Int32)]) (st' := []) (rs := [.inl v10]) (k_M_findCurrent h12) rfl cf_M_120 ⟨rfl, by decide +kernel, by decide, by decide, Nat.le_of_ble_eq_true rfl⟩ h14 rfl d_M_settle_25 ?_
      refine x_istore 28 (lv' := [(5, .inl v10), (0, .inr (.inr (some b))), (1, .inl a0), (2, .inl a1), (3, .inl a2), (4, .inl a3)]) d_M_settle_28 (by decide) rfl ?_
      refine x_iconst 30 d_M_settle_30 (v := (0 : Int32)) (by decide +kernel) ?_
      refine x_istore 31 (lv' := [(6, .inl (0 : Int32)), (5, .inl v10), (0, .inr (.inr (some b))), (1, .inl a0), (2, .inl a1), (3, .inl a2), (4, .inl a3)]) d_M_settle_31 (by decide) rfl ?_
      refine x_iconst 33 d_M_settle_33 (v := (0 : Int32)) (by decide +kernel) ?_
      refine x_istore 34 (lv' := [(7, .inl (0 : Int32)), (6, .inl (0 : Int32)), (5, .inl v10), (0, .inr (.inr (some b))), (1, .inl a0), (2, .inl a1), (3, .inl a2), (4, .inl a3)]) d_M_settle_34 (by decide) rfl ?_
      refine x_sub [3, 4, 5, 6, 7, 2, 1, 0] rfl ?_
      refine wL_M_settle_36 ?_ gF _ _ _ _ _ _ _ _ _ h
      · intro p0 p1 p2 p3 p4 p6 mm h
        refine x_iload 90 5 d_M_settle_90 rfl ?_
        refine x_if_ne 92 97 d_M_settle_92 (by decide) (fun c34 => ?_) (fun c34 => ?_)
        · replace h := gif_t h c34
          refine x_iconst 95 d_M_settle_95 (v := (-1 : Int32)) (by decide +kernel) ?_
          cases h
          exact x_ireturn 96 rfl d_M_settle_96
        · replace h := gif_f h c34
          refine x_aloadn 97 0 d_M_settle_97 rfl rfl ?_
          replace h := gb1_elim h; obtain ⟨v35, h36, h⟩ := h
          refine x_getR 98 h36 fl_M_42 d_M_settle_98 ?_
          refine x_aloadn 101 0 d_M_settle_101 rfl rfl ?_
          replace h := gb1_elim h; obtain ⟨v37, h38, h⟩ := h
          refine x_getI 102 h38 fl_M_126 d_M_settle_102 ?_
          refine x_iloadn 105 2 d_M_settle_105 rfl rfl ?_
          replace h := gb1_elim h; obtain ⟨mm39, h40, h⟩ := h
          refine x_iast 106 (by decide) rfl h40 d_M_settle_106 ?_
          refine x_aloadn 107 0 d_M_settle_107 rfl rfl ?_
          replace h := gb1_elim h; obtain ⟨v41, h42, h⟩ := h
          refine x_getR 108 h42 fl_M_45 d_M_settle_108 ?_
          refine x_aloadn 111 0 d_M_settle_111 rfl rfl ?_
          replace h := gb1_elim h; obtain ⟨v43, h44, h⟩ := h
          refine x_getI 112 h44 fl_M_126 d_M_settle_112 ?_
          refine x_iloadn 115 3 d_M_settle_115 rfl rfl ?_
          replace h := gb1_elim h; obtain ⟨mm45, h46, h⟩ := h
          refine x_iast 116 (by decide) rfl h46 d_M_settle_116 ?_
          refine x_aloadn 117 0 d_M_settle_117 rfl rfl ?_
          replace h := gb1_elim h; obtain ⟨v47, h48, h⟩ := h
          refine x_getR 118 h48 fl_M_48 d_M_settle_118 ?_
          refine x_aloadn 121 0 d_M_settle_121 rfl rfl ?_
          replace h := gb1_elim h; obtain ⟨v49, h50, h⟩ := h
          refine x_getI 122 h50 fl_M_126 d_M_settle_122 ?_
          refine x_iload 125 4 d_M_settle_125 rfl ?_
          replace h := gb1_elim h; obtain ⟨mm51, h52, h⟩ := h
          refine x_iast 127 (by decide) rfl h52 d_M_settle_127 ?_
          refine x_iconst 128 d_M_settle_128 (v := (0 : Int32)) (by decide +kernel) ?_
          refine x_istore 129 (lv' := [(7, .inl (0 : Int32)), (0, .inr (.inr p0)), (1, .inl p1), (2, .inl p2), (3, .inl p3), (4, .inl p4), (6, .inl p6)]) d_M_settle_129 (by decide) rfl ?_
          refine x_sub [1, 2, 0] rfl ?_
          refine wL_M_settle_131 ?_ gF _ _ _ _ h
          · intro p0 p1 mm h
            refine x_aloadn 169 0 d_M_settle_169 rfl rfl ?_
            replace h := gb1_elim h; obtain ⟨v68, h69, h⟩ := h
            refine x_getR 170 h69 fl_M_36 d_M_settle_170 ?_
            refine x_bipush 173 d_M_settle_173 (v := (40 : Int32)) (by decide +kernel) ?_
            refine x_iloadn 175 1 d_M_settle_175 rfl rfl ?_
            refine x_imul 176 d_M_settle_176 ?_
            refine x_aloadn 177 0 d_M_settle_177 rfl rfl ?_
            replace h := gb1_elim h; obtain ⟨v70, h71, h⟩ := h
            refine x_getI 178 h71 fl_M_126 d_M_settle_178 ?_
            refine x_iadd 181 d_M_settle_181 ?_
            refine x_iconst 182 d_M_settle_182 (v := (1 : Int32)) (by decide +kernel) ?_
            replace h := gb1_elim h; obtain ⟨mm72, h73, h⟩ := h
            refine x_zast 183 (by decide) (by decide) rfl h73 d_M_settle_183 ?_
            refine x_aloadn 184 0 d_M_settle_184 rfl rfl ?_
            refine x_dup 185 d_M_settle_185 rfl ?_
            replace h := gb1_elim h; obtain ⟨v74, h75, h⟩ := h
            refine x_getI 186 h75 fl_M_126 d_M_settle_186 ?_
            refine x_iconst 189 d_M_settle_189 (v := (1 : Int32)) (by decide +kernel) ?_
            refine x_iadd 190 d_M_settle_190 ?_
            replace h := gb1_elim h; obtain ⟨mm76, h77, h⟩ := h
            refine x_putV 191 fp_M_126 rfl rfl h77 d_M_settle_191 ?_
            refine x_aloadn 194 0 d_M_settle_194 rfl rfl ?_
            replace h := gb1_elim h; obtain ⟨v78, h79, h⟩ := h
            refine x_getI 195 h79 fl_M_126 d_M_settle_195 ?_
            cases h
            exact x_ireturn 198 rfl d_M_settle_198
theorem k_M_settle {b : Nat} {a0 : Int32} {a1 : Int32} {a2 : Int32} {a3 : Int32} {r : Int32} {mm res : gM} (h : F_M_settle b a0 a1 a2 a3 mm = some (r, res)) : ∀ (l : Launch) (E : gD), gLe mm res ∧ gMet l E Y_M_settle y_M_settle [.inr (.inr (some b)), .inl a0, .inl a1, .inl a2, .inl a3] (some (.int r)) mm res :=
  fun l E => ⟨(w_M_settle (l := l) (E := E) (n0 := 0) (s0 := 0) h).1, x_met (by decide +kernel) rfl rfl rfl (Nat.le_of_ble_eq_true rfl) (w_M_settle h)⟩
theorem d_Holding_becomeLike_0 : decode b_Holding_becomeLike 0 = .ok (.aload_n 1, 1) := by decide +kernel
theorem d_Holding_becomeLike_1 : decode b_Holding_becomeLike 1 = .ok (.getfield 9, 3) := by decide +kernel
theorem d_Holding_becomeLike_4 : decode b_Holding_becomeLike 4 = .ok (.iconst 0, 1) := by decide +kernel
theorem d_Holding_becomeLike_5 : decode b_Holding_becomeLike 5 = .ok (.aload_n 0, 1) := by decide +kernel
theorem d_Holding_becomeLike_6 : decode b_Holding_becomeLike 6 = .ok (.getfield 9, 3) := by decide +kernel
theorem d_Holding_becomeLike_9 : decode b_Holding_becomeLike 9 = .ok (.iconst 0, 1) := by decide +kernel
theorem d_Holding_becomeLike_10 : decode b_Holding_becomeLike 10 = .ok (.bipush 8, 2) := by decide +kernel
theorem d_Holding_becomeLike_12 : decode b_Holding_becomeLike 12 = .ok (.invokestatic 34, 3) := by decide +kernel
theorem d_Holding_becomeLike_15 : decode b_Holding_becomeLike 15 = .ok (.aload_n 0, 1) := by decide +kernel
theorem d_Holding_becomeLike_16 : decode b_Holding_becomeLike 16 = .ok (.aload_n 1, 1) := by decide +kernel
theorem d_Holding_becomeLike_17 : decode b_Holding_becomeLike 17 = .ok (.getfield 15, 3) := by decide +kernel
theorem d_Holding_becomeLike_20 : decode b_Holding_becomeLike 20 = .ok (.putfield 15, 3) := by decide +kernel
theorem d_Holding_becomeLike_23 : decode b_Holding_becomeLike 23 = .ok (.return_, 1) := by decide +kernel
def F_Holding_becomeLike (b : Nat) (a0 : Option Nat) (mm : gM) : Option (Unit × gM) :=
  gb1 (gfR 5 0 a0 mm) fun v1 =>
  gb1 (gfR 5 0 (some b) mm) fun v3 =>
  gb1 (gcI 0 v1 (0 : Int32) v3 (0 : Int32) (8 : Int32) mm) fun mm5 =>
  gb1 (gfL 5 1 a0 mm5) fun v7 =>
  gb1 (gpV 5 1 (some b) (.long v7) mm5) fun mm9 =>
  some ((), mm9)
set_option maxHeartbeats 8000000 in
set_option maxRecDepth 100000 in
theorem w_Holding_becomeLike {l : Launch} {E : gD} {n0 s0 : Nat} {b : Nat} {a0 : Option Nat} {r : Unit} {mm res : gM} (h : F_Holding_becomeLike b a0 mm = some (r, res)) : xX l E Y_Holding_becomeLike n0 s0 none res 0 [(0, .inr (.inr (some b))), (1, .inr (.inr a0))] [] mm := by
  unfold F_Holding_becomeLike at h
  refine x_aloadn 0 1 d_Holding_becomeLike_0 rfl rfl ?_
  replace h := gb1_elim h; obtain ⟨v1, h2, h⟩ := h
  refine x_getR 1 h2 fl_Holding_9 d_Holding_becomeLike_1 ?_
  refine x_iconst 4 d_Holding_becomeLike_4 (v := (0 : Int32)) (by decide +kernel) ?_
  refine x_aloadn 5 0 d_Holding_becomeLike_5 rfl rfl ?_
  replace h := gb1_elim h; obtain ⟨v3, h4, h⟩ := h
  refine x_getR 6 h4 fl_Holding_9 d_Holding_becomeLike_6 ?_
  refine x_iconst 9 d_Holding_becomeLike_9 (v := (0 : Int32)) (by decide +kernel) ?_
  refine x_bipush 10 d_Holding_becomeLike_10 (v := (8 : Int32)) (by decide +kernel) ?_
  replace h := gb1_elim h; obtain ⟨mm5, h6, h⟩ := h
  refine x_copyI 12 (by decide) rfl ac_Holding_34 h6 (by decide) (by decide +kernel) d_Holding_becomeLike_12 ?_
  refine x_aloadn 15 0 d_Holding_becomeLike_15 rfl rfl ?_
  refine x_aloadn 16 1 d_Holding_becomeLike_16 rfl rfl ?_
  replace h := gb1_elim h; obtain ⟨v7, h8, h⟩ := h
  refine x_getL 17 h8 fl_Holding_15 d_Holding_becomeLike_17 ?_
  replace h := gb1_elim h; obtain ⟨mm9, h10, h⟩ := h
  refine x_putV 20 fp_Holding_15 rfl rfl h10 d_Holding_becomeLike_20 ?_
  cases h
  exact x_return 23 rfl d_Holding_becomeLike_23
theorem k_Holding_becomeLike {b : Nat} {a0 : Option Nat} {r : Unit} {mm res : gM} (h : F_Holding_becomeLike b a0 mm = some (r, res)) : ∀ (l : Launch) (E : gD), gLe mm res ∧ gMet l E Y_Holding_becomeLike y_Holding_becomeLike [.inr (.inr (some b)), .inr (.inr a0)] none mm res :=
  fun l E => ⟨(w_Holding_becomeLike (l := l) (E := E) (n0 := 0) (s0 := 0) h).1, x_met (by decide +kernel) rfl rfl rfl (Nat.le_of_ble_eq_true rfl) (w_Holding_becomeLike h)⟩
