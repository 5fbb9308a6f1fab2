-- S_conflict M_conflict Holding_takeSettling Arrays_copyOf3 Settling_init
theorem d_S_conflict_0 : decode b_S_conflict 0 = .ok (.aload_n 0, 1) := by decide +kernel
theorem d_S_conflict_1 : decode b_S_conflict 1 = .ok (.iload_n 1, 1) := by decide +kernel
theorem d_S_conflict_2 : decode b_S_conflict 2 = .ok (.invokevirtual 110, 3) := by decide +kernel
theorem d_S_conflict_5 : decode b_S_conflict 5 = .ok (.astore 4, 2) := by decide +kernel
theorem d_S_conflict_7 : decode b_S_conflict 7 = .ok (.aload 4, 2) := by decide +kernel
theorem d_S_conflict_9 : decode b_S_conflict 9 = .ok (.ifnonnull 5, 3) := by decide +kernel
theorem d_S_conflict_12 : decode b_S_conflict 12 = .ok (.iconst (-1), 1) := by decide +kernel
theorem d_S_conflict_13 : decode b_S_conflict 13 = .ok (.ireturn, 1) := by decide +kernel
theorem d_S_conflict_14 : decode b_S_conflict 14 = .ok (.aload_n 0, 1) := by decide +kernel
theorem d_S_conflict_15 : decode b_S_conflict 15 = .ok (.aload 4, 2) := by decide +kernel
theorem d_S_conflict_17 : decode b_S_conflict 17 = .ok (.getfield 100, 3) := by decide +kernel
theorem d_S_conflict_20 : decode b_S_conflict 20 = .ok (.iload_n 2, 1) := by decide +kernel
theorem d_S_conflict_21 : decode b_S_conflict 21 = .ok (.invokevirtual 132, 3) := by decide +kernel
theorem d_S_conflict_24 : decode b_S_conflict 24 = .ok (.istore 5, 2) := by decide +kernel
theorem d_S_conflict_26 : decode b_S_conflict 26 = .ok (.iload 5, 2) := by decide +kernel
theorem d_S_conflict_28 : decode b_S_conflict 28 = .ok (.iconst (-1), 1) := by decide +kernel
theorem d_S_conflict_29 : decode b_S_conflict 29 = .ok (.if_icmp .ne 5, 3) := by decide +kernel
theorem d_S_conflict_32 : decode b_S_conflict 32 = .ok (.iconst (-1), 1) := by decide +kernel
theorem d_S_conflict_33 : decode b_S_conflict 33 = .ok (.ireturn, 1) := by decide +kernel
theorem d_S_conflict_34 : decode b_S_conflict 34 = .ok (.iload_n 3, 1) := by decide +kernel
theorem d_S_conflict_35 : decode b_S_conflict 35 = .ok (.tableswitch 58 0 2 #[25, 31, 37], 25) := by decide +kernel
theorem d_S_conflict_60 : decode b_S_conflict 60 = .ok (.iload 5, 2) := by decide +kernel
theorem d_S_conflict_62 : decode b_S_conflict 62 = .ok (.bipush 8, 2) := by decide +kernel
theorem d_S_conflict_64 : decode b_S_conflict 64 = .ok (.idiv, 1) := by decide +kernel
theorem d_S_conflict_65 : decode b_S_conflict 65 = .ok (.ireturn, 1) := by decide +kernel
theorem d_S_conflict_66 : decode b_S_conflict 66 = .ok (.iload 5, 2) := by decide +kernel
theorem d_S_conflict_68 : decode b_S_conflict 68 = .ok (.bipush 8, 2) := by decide +kernel
theorem d_S_conflict_70 : decode b_S_conflict 70 = .ok (.irem, 1) := by decide +kernel
theorem d_S_conflict_71 : decode b_S_conflict 71 = .ok (.ireturn, 1) := by decide +kernel
theorem d_S_conflict_72 : decode b_S_conflict 72 = .ok (.aload_n 0, 1) := by decide +kernel
theorem d_S_conflict_73 : decode b_S_conflict 73 = .ok (.aload 4, 2) := by decide +kernel
theorem d_S_conflict_75 : decode b_S_conflict 75 = .ok (.getfield 100, 3) := by decide +kernel
theorem d_S_conflict_78 : decode b_S_conflict 78 = .ok (.iload 5, 2) := by decide +kernel
theorem d_S_conflict_80 : decode b_S_conflict 80 = .ok (.ldc 136, 2) := by decide +kernel
theorem d_S_conflict_82 : decode b_S_conflict 82 = .ok (.invokevirtual 137, 3) := by decide +kernel
theorem d_S_conflict_85 : decode b_S_conflict 85 = .ok (.aload_n 0, 1) := by decide +kernel
theorem d_S_conflict_86 : decode b_S_conflict 86 = .ok (.getfield 37, 3) := by decide +kernel
theorem d_S_conflict_89 : decode b_S_conflict 89 = .ok (.invokevirtual 141, 3) := by decide +kernel
theorem d_S_conflict_92 : decode b_S_conflict 92 = .ok (.ireturn, 1) := by decide +kernel
theorem d_S_conflict_93 : decode b_S_conflict 93 = .ok (.iconst (-1), 1) := by decide +kernel
theorem d_S_conflict_94 : decode b_S_conflict 94 = .ok (.ireturn, 1) := by decide +kernel
def F_S_conflict (b : Nat) (a0 : Int32) (a1 : Int32) (a2 : Int32) (mm : gM) : Option (Int32 × gM) :=
  gb1 (grc 0 (some b) mm) fun b4 =>
  gb2 (F_S_setAt b4 a0 mm) fun v1 mm2 =>
  if v1 = none then (
    some ((-1 : Int32), mm2))
  else (
    gb1 (gfR 4 0 v1 mm2) fun v7 =>
    gb1 (grc 0 (some b) mm2) fun b12 =>
    gb2 (F_S_cellInConflict b12 v7 a1 mm2) fun v9 mm10 =>
    if v9 = (-1 : Int32) then (
      some ((-1 : Int32), mm10))
    else (
      if a2 = 0 then (
        some ((v9 / (8 : Int32)), mm10))
      else (
      if a2 = 1 then (
        some ((v9 - v9 / (8 : Int32) * (8 : Int32)), mm10))
      else (
      if a2 = 2 then (
        gb1 (gfR 4 0 v1 mm10) fun v20 =>
        gb1 (grc 0 (some b) mm10) fun b25 =>
        gb2 (F_S_findCurrent b25 v20 v9 (100000 : Int32) mm10) fun v22 mm23 =>
        gb1 (gfR 0 5 (some b) mm23) fun v27 =>
        gb1 (grc 8 v27 mm23) fun b32 =>
        gb2 (F_Current_count b32  mm23) fun v29 mm30 =>
        some (v29, mm30))
      else (
      some ((-1 : Int32), mm10))))))
set_option maxHeartbeats 8000000 in
set_option maxRecDepth 100000 in
theorem w_S_conflict {l : Launch} {E : gD} {n0 s0 : Nat} {b : Nat} {a0 : Int32} {a1 : Int32} {a2 : Int32} {r : Int32} {mm res : gM} (h : F_S_conflict b a0 a1 a2 mm = some (r, res)) : xX l E Y_S_conflict n0 s0 (some (.int r)) res 0 [(0, .inr (.inr (some b))), (1, .inl a0), (2, .inl a1), (3, .inl a2)] [] mm := by
  unfold F_S_conflict at h
  refine x_aloadn 0 0 d_S_conflict_0 rfl rfl ?_
  refine x_iloadn 1 1 d_S_conflict_1 rfl rfl ?_
  replace h := gb1_elim h; obtain ⟨b4, h5, h⟩ := h
  replace h := gb2_elim h; obtain ⟨v1, mm2, h3, h⟩ := h
  refine x_callV 2 1 (as := [.inl a0]) (st' := []) (rs := [.inr (.inr v1)]) (k_S_setAt h3) rfl cf_S_110 ⟨rfl, by decide +kernel, by decide, by decide, Nat.le_of_ble_eq_true rfl⟩ h5 rfl d_S_conflict_2 ?_
  refine x_astore 5 (lv' := [(4, .inr (.inr v1)), (0, .inr (.inr (some b))), (1, .inl a0), (2, .inl a1), (3, .inl a2)]) d_S_conflict_5 (by decide) rfl ?_
  refine x_aload 7 0 d_S_conflict_7 rfl ?_
  refine x_ifnonnull 9 14 d_S_conflict_9 (by decide) (fun c6 => ?_) (fun c6 => ?_)
  · replace h := gif_t h c6
    refine x_iconst 12 d_S_conflict_12 (v := (-1 : Int32)) (by decide +kernel) ?_
    cases h
    exact x_ireturn 13 rfl d_S_conflict_13
  · replace h := gif_f h c6
    refine x_aloadn 14 1 d_S_conflict_14 rfl rfl ?_
    refine x_aload 15 0 d_S_conflict_15 rfl ?_
    replace h := gb1_elim h; obtain ⟨v7, h8, h⟩ := h
    refine x_getR 17 h8 fl_S_100 d_S_conflict_17 ?_
    refine x_iloadn 20 3 d_S_conflict_20 rfl rfl ?_
    replace h := gb1_elim h; obtain ⟨b12, h13, h⟩ := h
    replace h := gb2_elim h; obtain ⟨v9, mm10, h11, h⟩ := h
    refine x_callV 21 2 (as := [.inr (.inr v7), .inl a1]) (st' := []) (rs := [.inl v9]) (k_S_cellInConflict h11) rfl cf_S_132 ⟨rfl, by decide +kernel, by decide, by decide, Nat.le_of_ble_eq_true rfl⟩ h13 rfl d_S_conflict_21 ?_
    refine x_istore 24 (lv' := [(5, .inl v9), (4, .inr (.inr v1)), (0, .inr (.inr (some b))), (1, .inl a0), (2, .inl a1), (3, .inl a2)]) d_S_conflict_24 (by decide) rfl ?_
    refine x_iload 26 0 d_S_conflict_26 rfl ?_
    refine x_iconst 28 d_S_conflict_28 (v := (-1 : Int32)) (by decide +kernel) ?_
    refine x_icmp_ne 29 34 d_S_conflict_29 (by decide) (fun c14 => ?_) (fun c14 => ?_)
    · replace h := gif_t h c14
      refine x_iconst 32 d_S_conflict_32 (v := (-1 : Int32)) (by decide +kernel) ?_
      cases h
      exact x_ireturn 33 rfl d_S_conflict_33
    · replace h := gif_f h c14
      refine x_iloadn 34 5 d_S_conflict_34 rfl rfl ?_
      by_cases c15 : a2 = 0
      · replace h := gif_t h c15
        refine x_tsIn 35 60 0 (off := 25) c15 d_S_conflict_35 (by decide +kernel) (by decide +kernel) (by decide +kernel) (by decide) ?_
        refine x_iload 60 0 d_S_conflict_60 rfl ?_
        refine x_bipush 62 d_S_conflict_62 (v := (8 : Int32)) (by decide +kernel) ?_
        refine x_idiv 64 (by decide) d_S_conflict_64 ?_
        cases h
        exact x_ireturn 65 rfl d_S_conflict_65
      · replace h := gif_f h c15
        by_cases c16 : a2 = 1
        · replace h := gif_t h c16
          refine x_tsIn 35 66 1 (off := 31) c16 d_S_conflict_35 (by decide +kernel) (by decide +kernel) (by decide +kernel) (by decide) ?_
          refine x_iload 66 0 d_S_conflict_66 rfl ?_
          refine x_bipush 68 d_S_conflict_68 (v := (8 : Int32)) (by decide +kernel) ?_
          refine x_irem 70 (by decide) d_S_conflict_70 ?_
          cases h
          exact x_ireturn 71 rfl d_S_conflict_71
        · replace h := gif_f h c16
          by_cases c17 : a2 = 2
          · replace h := gif_t h c17
            refine x_tsIn 35 72 2 (off := 37) c17 d_S_conflict_35 (by decide +kernel) (by decide +kernel) (by decide +kernel) (by decide) ?_
            refine x_aloadn 72 2 d_S_conflict_72 rfl rfl ?_
            refine x_aload 73 1 d_S_conflict_73 rfl ?_
            replace h := gb1_elim h; obtain ⟨v20, h21, h⟩ := h
            refine x_getR 75 h21 fl_S_100 d_S_conflict_75 ?_
            refine x_iload 78 0 d_S_conflict_78 rfl ?_
            refine x_ldc 80 d_S_conflict_80 (v := (100000 : Int32)) (gT_in1 65 rfl) ?_
            replace h := gb1_elim h; obtain ⟨b25, h26, h⟩ := h
            replace h := gb2_elim h; obtain ⟨v22, mm23, h24, h⟩ := h
            refine x_callV 82 3 (as := [.inr (.inr v20), .inl v9, .inl (100000 : Int32)]) (st' := []) (rs := []) (k_S_findCurrent h24) rfl cf_S_137 ⟨rfl, by decide +kernel, by decide, by decide, Nat.le_of_ble_eq_true rfl⟩ h26 rfl d_S_conflict_82 ?_
            refine x_aloadn 85 2 d_S_conflict_85 rfl rfl ?_
            replace h := gb1_elim h; obtain ⟨v27, h28, h⟩ := h
            refine x_getR 86 h28 fl_S_37 d_S_conflict_86 ?_
            replace h := gb1_elim h; obtain ⟨b32, h33, h⟩ := h
            replace h := gb2_elim h; obtain ⟨v29, mm30, h31, h⟩ := h
            refine x_callV 89 0 (as := []) (st' := []) (rs := [.inl v29]) (k_Current_count h31) rfl cf_S_141 ⟨rfl, by decide +kernel, by decide, by decide, Nat.le_of_ble_eq_true rfl⟩ h33 rfl d_S_conflict_89 ?_
            cases h
            exact x_ireturn 92 rfl d_S_conflict_92
          · replace h := gif_f h c17
            have nc15 := g_ne (0 : Int32) c15
            have nc16 := g_ne (1 : Int32) c16
            have nc17 := g_ne (2 : Int32) c17
            rw [show ((0 : Int32)).toInt = 0 by decide +kernel] at nc15
            rw [show ((1 : Int32)).toInt = 1 by decide +kernel] at nc16
            rw [show ((2 : Int32)).toInt = 2 by decide +kernel] at nc17
            refine x_tsOut 35 93 d_S_conflict_35 (by omega) (by decide) ?_
            refine x_iconst 93 d_S_conflict_93 (v := (-1 : Int32)) (by decide +kernel) ?_
            cases h
            exact x_ireturn 94 rfl d_S_conflict_94
theorem k_S_conflict {b : Nat} {a0 : Int32} {a1 : Int32} {a2 : Int32} {r : Int32} {mm res : gM} (h : F_S_conflict b a0 a1 a2 mm = some (r, res)) : ∀ (l : Launch) (E : gD), gLe mm res ∧ gMet l E Y_S_conflict y_S_conflict [.inr (.inr (some b)), .inl a0, .inl a1, .inl a2] (some (.int r)) mm res :=
  fun l E => ⟨(w_S_conflict (l := l) (E := E) (n0 := 0) (s0 := 0) h).1, x_met (by decide +kernel) rfl rfl rfl (Nat.le_of_ble_eq_true rfl) (w_S_conflict h)⟩
theorem d_M_conflict_0 : decode b_M_conflict 0 = .ok (.aload_n 0, 1) := by decide +kernel
theorem d_M_conflict_1 : decode b_M_conflict 1 = .ok (.iload_n 1, 1) := by decide +kernel
theorem d_M_conflict_2 : decode b_M_conflict 2 = .ok (.invokevirtual 133, 3) := by decide +kernel
theorem d_M_conflict_5 : decode b_M_conflict 5 = .ok (.ifCond .eq 16, 3) := by decide +kernel
theorem d_M_conflict_8 : decode b_M_conflict 8 = .ok (.iload_n 2, 1) := by decide +kernel
theorem d_M_conflict_9 : decode b_M_conflict 9 = .ok (.ifCond .lt 12, 3) := by decide +kernel
theorem d_M_conflict_12 : decode b_M_conflict 12 = .ok (.iload_n 3, 1) := by decide +kernel
theorem d_M_conflict_13 : decode b_M_conflict 13 = .ok (.ifCond .lt 8, 3) := by decide +kernel
theorem d_M_conflict_16 : decode b_M_conflict 16 = .ok (.iload_n 3, 1) := by decide +kernel
theorem d_M_conflict_17 : decode b_M_conflict 17 = .ok (.iconst 2, 1) := by decide +kernel
theorem d_M_conflict_18 : decode b_M_conflict 18 = .ok (.if_icmp .le 5, 3) := by decide +kernel
theorem d_M_conflict_21 : decode b_M_conflict 21 = .ok (.iconst (-1), 1) := by decide +kernel
theorem d_M_conflict_22 : decode b_M_conflict 22 = .ok (.ireturn, 1) := by decide +kernel
theorem d_M_conflict_23 : decode b_M_conflict 23 = .ok (.iconst 0, 1) := by decide +kernel
theorem d_M_conflict_24 : decode b_M_conflict 24 = .ok (.istore 4, 2) := by decide +kernel
theorem d_M_conflict_26 : decode b_M_conflict 26 = .ok (.iconst 0, 1) := by decide +kernel
theorem d_M_conflict_27 : decode b_M_conflict 27 = .ok (.istore 5, 2) := by decide +kernel
theorem d_M_conflict_29 : decode b_M_conflict 29 = .ok (.iload 5, 2) := by decide +kernel
theorem d_M_conflict_31 : decode b_M_conflict 31 = .ok (.sipush 128, 3) := by decide +kernel
theorem d_M_conflict_34 : decode b_M_conflict 34 = .ok (.if_icmp .ge 79, 3) := by decide +kernel
theorem d_M_conflict_37 : decode b_M_conflict 37 = .ok (.aload_n 0, 1) := by decide +kernel
theorem d_M_conflict_38 : decode b_M_conflict 38 = .ok (.iload_n 1, 1) := by decide +kernel
theorem d_M_conflict_39 : decode b_M_conflict 39 = .ok (.iload 5, 2) := by decide +kernel
theorem d_M_conflict_41 : decode b_M_conflict 41 = .ok (.bipush 8, 2) := by decide +kernel
theorem d_M_conflict_43 : decode b_M_conflict 43 = .ok (.idiv, 1) := by decide +kernel
theorem d_M_conflict_44 : decode b_M_conflict 44 = .ok (.iload 5, 2) := by decide +kernel
theorem d_M_conflict_46 : decode b_M_conflict 46 = .ok (.bipush 8, 2) := by decide +kernel
theorem d_M_conflict_48 : decode b_M_conflict 48 = .ok (.irem, 1) := by decide +kernel
theorem d_M_conflict_49 : decode b_M_conflict 49 = .ok (.invokevirtual 141, 3) := by decide +kernel
theorem d_M_conflict_52 : decode b_M_conflict 52 = .ok (.ifCond .eq 55, 3) := by decide +kernel
theorem d_M_conflict_55 : decode b_M_conflict 55 = .ok (.iload 4, 2) := by decide +kernel
theorem d_M_conflict_57 : decode b_M_conflict 57 = .ok (.iload_n 2, 1) := by decide +kernel
theorem d_M_conflict_58 : decode b_M_conflict 58 = .ok (.if_icmp .ne 46, 3) := by decide +kernel
theorem d_M_conflict_61 : decode b_M_conflict 61 = .ok (.iload_n 3, 1) := by decide +kernel
theorem d_M_conflict_62 : decode b_M_conflict 62 = .ok (.ifCond .ne 11, 3) := by decide +kernel
theorem d_M_conflict_65 : decode b_M_conflict 65 = .ok (.iload 5, 2) := by decide +kernel
theorem d_M_conflict_67 : decode b_M_conflict 67 = .ok (.bipush 8, 2) := by decide +kernel
theorem d_M_conflict_69 : decode b_M_conflict 69 = .ok (.idiv, 1) := by decide +kernel
theorem d_M_conflict_70 : decode b_M_conflict 70 = .ok (.goto 33, 3) := by decide +kernel
theorem d_M_conflict_73 : decode b_M_conflict 73 = .ok (.iload_n 3, 1) := by decide +kernel
theorem d_M_conflict_74 : decode b_M_conflict 74 = .ok (.iconst 1, 1) := by decide +kernel
theorem d_M_conflict_75 : decode b_M_conflict 75 = .ok (.if_icmp .ne 11, 3) := by decide +kernel
theorem d_M_conflict_78 : decode b_M_conflict 78 = .ok (.iload 5, 2) := by decide +kernel
theorem d_M_conflict_80 : decode b_M_conflict 80 = .ok (.bipush 8, 2) := by decide +kernel
theorem d_M_conflict_82 : decode b_M_conflict 82 = .ok (.irem, 1) := by decide +kernel
theorem d_M_conflict_83 : decode b_M_conflict 83 = .ok (.goto 20, 3) := by decide +kernel
theorem d_M_conflict_86 : decode b_M_conflict 86 = .ok (.aload_n 0, 1) := by decide +kernel
theorem d_M_conflict_87 : decode b_M_conflict 87 = .ok (.iload_n 1, 1) := by decide +kernel
theorem d_M_conflict_88 : decode b_M_conflict 88 = .ok (.iload 5, 2) := by decide +kernel
theorem d_M_conflict_90 : decode b_M_conflict 90 = .ok (.bipush 8, 2) := by decide +kernel
theorem d_M_conflict_92 : decode b_M_conflict 92 = .ok (.idiv, 1) := by decide +kernel
theorem d_M_conflict_93 : decode b_M_conflict 93 = .ok (.iload 5, 2) := by decide +kernel
theorem d_M_conflict_95 : decode b_M_conflict 95 = .ok (.bipush 8, 2) := by decide +kernel
theorem d_M_conflict_97 : decode b_M_conflict 97 = .ok (.irem, 1) := by decide +kernel
theorem d_M_conflict_98 : decode b_M_conflict 98 = .ok (.ldc 140, 2) := by decide +kernel
theorem d_M_conflict_100 : decode b_M_conflict 100 = .ok (.invokevirtual 120, 3) := by decide +kernel
theorem d_M_conflict_103 : decode b_M_conflict 103 = .ok (.ireturn, 1) := by decide +kernel
theorem d_M_conflict_104 : decode b_M_conflict 104 = .ok (.iinc 4 1, 3) := by decide +kernel
theorem d_M_conflict_107 : decode b_M_conflict 107 = .ok (.iinc 5 1, 3) := by decide +kernel
theorem d_M_conflict_110 : decode b_M_conflict 110 = .ok (.goto (-81), 3) := by decide +kernel
theorem d_M_conflict_113 : decode b_M_conflict 113 = .ok (.iconst (-1), 1) := by decide +kernel
theorem d_M_conflict_114 : decode b_M_conflict 114 = .ok (.ireturn, 1) := by decide +kernel
def L_M_conflict_29 (k61 : Option Nat → Int32 → Int32 → Int32 → gM → Option (Int32 × gM)) (k113 : gM → Option (Int32 × gM)) : Nat → Option Nat → Int32 → Int32 → Int32 → Int32 → Int32 → gM → Option (Int32 × gM)
  | 0, _, _, _, _, _, _, _ => none
  | f + 1, p0, p1, p2, p3, p4, p5, mm =>
    if (128 : Int32) ≤ p5 then (
      k113  mm)
    else (
      gb1 (grc 10 p0 mm) fun b16 =>
      gb2 (F_M_isConflict b16 p1 (p5 / (8 : Int32)) (p5 - p5 / (8 : Int32) * (8 : Int32)) mm) fun v13 mm14 =>
      if v13 = 0 then (
        gLet (p5 + 1) fun x19 =>
        L_M_conflict_29 k61 k113 f p0 p1 p2 p3 p4 x19 mm14)
      else (
        if p4 = p2 then (
          k61 p0 p1 p3 p5 mm14)
        else (
          gLet (p4 + 1) fun x21 =>
          gLet (p5 + 1) fun x22 =>
          L_M_conflict_29 k61 k113 f p0 p1 p2 p3 x21 x22 mm14)))
set_option maxHeartbeats 4000000 in
set_option maxRecDepth 100000 in
theorem wL_M_conflict_29 {l : Launch} {E : gD} {n0 s0 : Nat} {r : Int32} {res : gM} {k61 : Option Nat → Int32 → Int32 → Int32 → gM → Option (Int32 × gM)} {k113 : gM → Option (Int32 × gM)} (hk61 : ∀ (p0 : Option Nat) (p1 : Int32) (p3 : Int32) (p5 : Int32) (mm : gM), k61 p0 p1 p3 p5 mm = some (r, res) → xX l E Y_M_conflict n0 s0 (some (.int r)) res 61 [(0, .inr (.inr p0)), (1, .inl p1), (3, .inl p3), (5, .inl p5)] [] mm) (hk113 : ∀  (mm : gM), k113  mm = some (r, res) → xX l E Y_M_conflict n0 s0 (some (.int r)) res 113 [] [] mm) : ∀ (f : Nat) (p0 : Option Nat) (p1 : Int32) (p2 : Int32) (p3 : Int32) (p4 : Int32) (p5 : Int32) (mm : gM), L_M_conflict_29 k61 k113 f p0 p1 p2 p3 p4 p5 mm = some (r, res) → xX l E Y_M_conflict n0 s0 (some (.int r)) res 29 [(0, .inr (.inr p0)), (1, .inl p1), (2, .inl p2), (3, .inl p3), (4, .inl p4), (5, .inl p5)] [] mm := by
  intro f
  induction f with
  | zero =>
    intro p0 p1 p2 p3 p4 p5 mm h
    rw [L_M_conflict_29] at h
    cases h
  | succ f ih =>
    intro p0 p1 p2 p3 p4 p5 mm h
    rw [L_M_conflict_29] at h
    refine x_iload 29 5 d_M_conflict_29 rfl ?_
    refine x_sipush 31 d_M_conflict_31 (v := (128 : Int32)) (by decide +kernel) ?_
    refine x_icmp_ge 34 113 d_M_conflict_34 (by decide) (fun c10 => ?_) (fun c10 => ?_)
    · replace h := gif_t h c10
      refine x_sub [] rfl ?_
      exact hk113 _ h
    · replace h := gif_f h c10
      refine x_aloadn 37 0 d_M_conflict_37 rfl rfl ?_
      refine x_iloadn 38 1 d_M_conflict_38 rfl rfl ?_
      refine x_iload 39 5 d_M_conflict_39 rfl ?_
      refine x_bipush 41 d_M_conflict_41 (v := (8 : Int32)) (by decide +kernel) ?_
      refine x_idiv 43 (by decide) d_M_conflict_43 ?_
      refine x_iload 44 5 d_M_conflict_44 rfl ?_
      refine x_bipush 46 d_M_conflict_46 (v := (8 : Int32)) (by decide +kernel) ?_
      refine x_irem 48 (by decide) d_M_conflict_48 ?_
      replace h := gb1_elim h; obtain ⟨b16, h17, h⟩ := h
      replace h := gb2_elim h; obtain ⟨v13, mm14, h15, h⟩ := h
      refine x_callV 49 3 (as := [.inl p1, .inl (p5 / (8 : Int32)), .inl (p5 - p5 / (8 : Int32) * (8 : Int32))]) (st' := []) (rs := [.inl v13]) (k_M_isConflict h15) rfl cf_M_141 ⟨rfl, by decide +kernel, by decide, by decide, Nat.le_of_ble_eq_true rfl⟩ h17 rfl d_M_conflict_49 ?_
      refine x_if_eq 52 107 d_M_conflict_52 (by decide) (fun c18 => ?_) (fun c18 => ?_)
      · replace h := gif_t h c18
        replace h := gLet_elim h; obtain ⟨x19, ex19, h⟩ := h
        refine x_iinc 107 5 (v := x19) (lv' := [(5, .inl x19), (0, .inr (.inr p0)), (1, .inl p1), (2, .inl p2), (3, .inl p3), (4, .inl p4)]) d_M_conflict_107 rfl (by rw [ex19]; rfl) (by decide) rfl ?_
        refine x_goto 110 29 d_M_conflict_110 (by decide) ?_
        refine x_sub [1, 2, 3, 4, 5, 0] rfl ?_
        exact ih _ _ _ _ _ _ _ h
      · replace h := gif_f h c18
        refine x_iload 55 4 d_M_conflict_55 rfl ?_
        refine x_iloadn 57 2 d_M_conflict_57 rfl rfl ?_
        refine x_icmp_ne 58 104 d_M_conflict_58 (by decide) (fun c20 => ?_) (fun c20 => ?_)
        · replace h := gif_t h c20
          refine x_sub [0, 1, 3, 5] rfl ?_
          exact hk61 _ _ _ _ _ h
        · replace h := gif_f h c20
          replace h := gLet_elim h; obtain ⟨x21, ex21, h⟩ := h
          refine x_iinc 104 4 (v := x21) (lv' := [(4, .inl x21), (0, .inr (.inr p0)), (1, .inl p1), (2, .inl p2), (3, .inl p3), (5, .inl p5)]) d_M_conflict_104 rfl (by rw [ex21]; rfl) (by decide) rfl ?_
          replace h := gLet_elim h; obtain ⟨x22, ex22, h⟩ := h
          refine x_iinc 107 5 (v := x22) (lv' := [(5, .inl x22), (4, .inl x21), (0, .inr (.inr p0)), (1, .inl p1), (2, .inl p2), (3, .inl p3)]) d_M_conflict_107 rfl (by rw [ex22]; rfl) (by decide) rfl ?_
          refine x_goto 110 29 d_M_conflict_110 (by decide) ?_
          refine x_sub [2, 3, 4, 5, 1, 0] rfl ?_
          exact ih _ _ _ _ _ _ _ h
def F_M_conflict (b : Nat) (a0 : Int32) (a1 : Int32) (a2 : Int32) (mm : gM) : Option (Int32 × gM) :=
  gb1 (grc 10 (some b) mm) fun b4 =>
  gb2 (F_M_isSet b4 a0 mm) fun v1 mm2 =>
  if v1 = 0 then (
    some ((-1 : Int32), mm2))
  else (
    if a1 < 0 then (
      some ((-1 : Int32), mm2))
    else (
      if a2 < 0 then (
        some ((-1 : Int32), mm2))
      else (
        if a2 ≤ (2 : Int32) then (
          L_M_conflict_29 (fun p0 p1 p3 p5 mm =>
            if p3 = 0 then (
              some ((p5 / (8 : Int32)), mm))
            else (
              if p3 = (1 : Int32) then (
                some ((p5 - p5 / (8 : Int32) * (8 : Int32)), mm))
              else (
                gb1 (grc 10 p0 mm) fun b32 =>
                gb2 (F_M_findCurrent b32 p1 (p5 / (8 : Int32)) (p5 - p5 / (8 : Int32) * (8 : Int32)) (100000 : Int32) mm) fun v29 mm30 =>
                some (v29, mm30)))) (fun  mm =>
            some ((-1 : Int32), mm)) gF (some b) a0 a1 a2 (0 : Int32) (0 : Int32) mm2)
        else (
          some ((-1 : Int32), mm2)))))
set_option maxHeartbeats 8000000 in
set_option maxRecDepth 100000 in
theorem w_M_conflict {l : Launch} {E : gD} {n0 s0 : Nat} {b : Nat} {a0 : Int32} {a1 : Int32} {a2 : Int32} {r : Int32} {mm res : gM} (h : F_M_conflict b a0 a1 a2 mm = some (r, res)) : xX l E Y_M_conflict n0 s0 (some (.int r)) res 0 [(0, .inr (.inr (some b))), (1, .inl a0), (2, .inl a1), (3, .inl a2)] [] mm := by
  unfold F_M_conflict at h
  refine x_aloadn 0 0 d_M_conflict_0 rfl rfl ?_
  refine x_iloadn 1 1 d_M_conflict_1 rfl rfl ?_
  replace h := gb1_elim h; obtain ⟨b4, h5, h⟩ := h
  replace h := gb2_elim h; obtain ⟨v1, mm2, h3, h⟩ := h
  refine x_callV 2 1 (as := [.inl a0]) (st' := []) (rs := [.inl v1]) (k_M_isSet h3) rfl cf_M_133 ⟨rfl, by decide +kernel, by decide, by decide, Nat.le_of_ble_eq_true rfl⟩ h5 rfl d_M_conflict_2 ?_
  refine x_if_eq 5 21 d_M_conflict_5 (by decide) (fun c6 => ?_) (fun c6 => ?_)
  · replace h := gif_t h c6
    refine x_iconst 21 d_M_conflict_21 (v := (-1 : Int32)) (by decide +kernel) ?_
    cases h
    exact x_ireturn 22 rfl d_M_conflict_22
  · replace h := gif_f h c6
    refine x_iloadn 8 2 d_M_conflict_8 rfl rfl ?_
    refine x_if_lt 9 21 d_M_conflict_9 (by decide) (fun c7 => ?_) (fun c7 => ?_)
    · replace h := gif_t h c7
      refine x_iconst 21 d_M_conflict_21 (v := (-1 : Int32)) (by decide +kernel) ?_
      cases h
      exact x_ireturn 22 rfl d_M_conflict_22
    · replace h := gif_f h c7
      refine x_iloadn 12 3 d_M_conflict_12 rfl rfl ?_
      refine x_if_lt 13 21 d_M_conflict_13 (by decide) (fun c8 => ?_) (fun c8 => ?_)
      · replace h := gif_t h c8
        refine x_iconst 21 d_M_conflict_21 (v := (-1 : Int32)) (by decide +kernel) ?_
        cases h
        exact x_ireturn 22 rfl d_M_conflict_22
      · replace h := gif_f h c8
        refine x_iloadn 16 3 d_M_conflict_16 rfl rfl ?_
        refine x_iconst 17 d_M_conflict_17 (v := (2 : Int32)) (by decide +kernel) ?_
        refine x_icmp_le 18 23 d_M_conflict_18 (by decide) (fun c9 => ?_) (fun c9 => ?_)
        · replace h := gif_t h c9
          refine x_iconst 23 d_M_conflict_23 (v := (0 : Int32)) (by decide +kernel) ?_
          refine x_istore 24 (lv' := [(4, .inl (0 : Int32)), (0, .inr (.inr (some b))), (1, .inl a0), (2, .inl a1), (3, .inl a2)]) d_M_conflict_24 (by decide) rfl ?_
          refine x_iconst 26 d_M_conflict_26 (v := (0 : Int32)) (by decide +kernel) ?_
          refine x_istore 27 (lv' := [(5, .inl (0 : Int32)), (4, .inl (0 : Int32)), (0, .inr (.inr (some b))), (1, .inl a0), (2, .inl a1), (3, .inl a2)]) d_M_conflict_27 (by decide) rfl ?_
          refine x_sub [2, 3, 4, 5, 1, 0] rfl ?_
          refine wL_M_conflict_29 ?_ ?_ gF _ _ _ _ _ _ _ h
          · intro p0 p1 p3 p5 mm h
            refine x_iloadn 61 2 d_M_conflict_61 rfl rfl ?_
            refine x_if_ne 62 73 d_M_conflict_62 (by decide) (fun c23 => ?_) (fun c23 => ?_)
            · replace h := gif_t h c23
              refine x_iload 65 3 d_M_conflict_65 rfl ?_
              refine x_bipush 67 d_M_conflict_67 (v := (8 : Int32)) (by decide +kernel) ?_
              refine x_idiv 69 (by decide) d_M_conflict_69 ?_
              refine x_goto 70 103 d_M_conflict_70 (by decide) ?_
              cases h
              exact x_ireturn 103 rfl d_M_conflict_103
            · replace h := gif_f h c23
              refine x_iloadn 73 2 d_M_conflict_73 rfl rfl ?_
              refine x_iconst 74 d_M_conflict_74 (v := (1 : Int32)) (by decide +kernel) ?_
              refine x_icmp_ne 75 86 d_M_conflict_75 (by decide) (fun c25 => ?_) (fun c25 => ?_)
              · replace h := gif_t h c25
                refine x_iload 78 3 d_M_conflict_78 rfl ?_
                refine x_bipush 80 d_M_conflict_80 (v := (8 : Int32)) (by decide +kernel) ?_
                refine x_irem 82 (by decide) d_M_conflict_82 ?_
                refine x_goto 83 103 d_M_conflict_83 (by decide) ?_
                cases h
                exact x_ireturn 103 rfl d_M_conflict_103
              · replace h := gif_f h c25
                refine x_aloadn 86 0 d_M_conflict_86 rfl rfl ?_
                refine x_iloadn 87 1 d_M_conflict_87 rfl rfl ?_
                refine x_iload 88 3 d_M_conflict_88 rfl ?_
                refine x_bipush 90 d_M_conflict_90 (v := (8 : Int32)) (by decide +kernel) ?_
                refine x_idiv 92 (by decide) d_M_conflict_92 ?_
                refine x_iload 93 3 d_M_conflict_93 rfl ?_
                refine x_bipush 95 d_M_conflict_95 (v := (8 : Int32)) (by decide +kernel) ?_
                refine x_irem 97 (by decide) d_M_conflict_97 ?_
                refine x_ldc 98 d_M_conflict_98 (v := (100000 : Int32)) (gT_in4 25 rfl) ?_
                replace h := gb1_elim h; obtain ⟨b32, h33, h⟩ := h
                replace h := gb2_elim h; obtain ⟨v29, mm30, h31, h⟩ := h
                refine x_callV 100 4 (as := [.inl p1, .inl (p5 / (8 : Int32)), .inl (p5 - p5 / (8 : Int32) * (8 : Int32)), .inl (100000 : Int32)]) (st' := []) (rs := [.inl v29]) (k_M_findCurrent h31) rfl cf_M_120 ⟨rfl, by decide +kernel, by decide, by decide, Nat.le_of_ble_eq_true rfl⟩ h33 rfl d_M_conflict_100 ?_
                cases h
                exact x_ireturn 103 rfl d_M_conflict_103
          · intro  mm h
            refine x_iconst 113 d_M_conflict_113 (v := (-1 : Int32)) (by decide +kernel) ?_
            cases h
            exact x_ireturn 114 rfl d_M_conflict_114
        · replace h := gif_f h c9
          refine x_iconst 21 d_M_conflict_21 (v := (-1 : Int32)) (by decide +kernel) ?_
          cases h
          exact x_ireturn 22 rfl d_M_conflict_22
theorem k_M_conflict {b : Nat} {a0 : Int32} {a1 : Int32} {a2 : Int32} {r : Int32} {mm res : gM} (h : F_M_conflict b a0 a1 a2 mm = some (r, res)) : ∀ (l : Launch) (E : gD), gLe mm res ∧ gMet l E Y_M_conflict y_M_conflict [.inr (.inr (some b)), .inl a0, .inl a1, .inl a2] (some (.int r)) mm res :=
  fun l E => ⟨(w_M_conflict (l := l) (E := E) (n0 := 0) (s0 := 0) h).1, x_met (by decide +kernel) rfl rfl rfl (Nat.le_of_ble_eq_true rfl) (w_M_conflict h)⟩
theorem d_Holding_takeSettling_0 : decode b_Holding_takeSettling 0 = .ok (.aload_n 0, 1) := by decide +kernel
theorem d_Holding_takeSettling_1 : decode b_Holding_takeSettling 1 = .ok (.dup, 1) := by decide +kernel
theorem d_Holding_takeSettling_2 : decode b_Holding_takeSettling 2 = .ok (.getfield 15, 3) := by decide +kernel
theorem d_Holding_takeSettling_5 : decode b_Holding_takeSettling 5 = .ok (.lconst 1, 1) := by decide +kernel
theorem d_Holding_takeSettling_6 : decode b_Holding_takeSettling 6 = .ok (.iload_n 1, 1) := by decide +kernel
theorem d_Holding_takeSettling_7 : decode b_Holding_takeSettling 7 = .ok (.lshl, 1) := by decide +kernel
theorem d_Holding_takeSettling_8 : decode b_Holding_takeSettling 8 = .ok (.lor, 1) := by decide +kernel
theorem d_Holding_takeSettling_9 : decode b_Holding_takeSettling 9 = .ok (.putfield 15, 3) := by decide +kernel
theorem d_Holding_takeSettling_12 : decode b_Holding_takeSettling 12 = .ok (.return_, 1) := by decide +kernel
def F_Holding_takeSettling (b : Nat) (a0 : Int32) (mm : gM) : Option (Unit × gM) :=
  gb1 (gfL 5 1 (some b) mm) fun v1 =>
  gb1 (gpV 5 1 (some b) (.long (v1 ||| ((1 : Int64) <<< ((a0).toInt64 &&& 63)))) mm) fun mm3 =>
  some ((), mm3)
set_option maxHeartbeats 8000000 in
set_option maxRecDepth 100000 in
theorem w_Holding_takeSettling {l : Launch} {E : gD} {n0 s0 : Nat} {b : Nat} {a0 : Int32} {r : Unit} {mm res : gM} (h : F_Holding_takeSettling b a0 mm = some (r, res)) : xX l E Y_Holding_takeSettling n0 s0 none res 0 [(0, .inr (.inr (some b))), (1, .inl a0)] [] mm := by
  unfold F_Holding_takeSettling at h
  refine x_aloadn 0 0 d_Holding_takeSettling_0 rfl rfl ?_
  refine x_dup 1 d_Holding_takeSettling_1 rfl ?_
  replace h := gb1_elim h; obtain ⟨v1, h2, h⟩ := h
  refine x_getL 2 h2 fl_Holding_15 d_Holding_takeSettling_2 ?_
  refine x_lconst 5 d_Holding_takeSettling_5 (v := (1 : Int64)) (by decide +kernel) ?_
  refine x_iloadn 6 1 d_Holding_takeSettling_6 rfl rfl ?_
  refine x_lshl 7 d_Holding_takeSettling_7 ?_
  refine x_lor 8 d_Holding_takeSettling_8 ?_
  replace h := gb1_elim h; obtain ⟨mm3, h4, h⟩ := h
  refine x_putV 9 fp_Holding_15 rfl rfl h4 d_Holding_takeSettling_9 ?_
  cases h
  exact x_return 12 rfl d_Holding_takeSettling_12
theorem k_Holding_takeSettling {b : Nat} {a0 : Int32} {r : Unit} {mm res : gM} (h : F_Holding_takeSettling b a0 mm = some (r, res)) : ∀ (l : Launch) (E : gD), gLe mm res ∧ gMet l E Y_Holding_takeSettling y_Holding_takeSettling [.inr (.inr (some b)), .inl a0] none mm res :=
  fun l E => ⟨(w_Holding_takeSettling (l := l) (E := E) (n0 := 0) (s0 := 0) h).1, x_met (by decide +kernel) rfl rfl rfl (Nat.le_of_ble_eq_true rfl) (w_Holding_takeSettling h)⟩
theorem d_Arrays_copyOf3_0 : decode b_Arrays_copyOf3 0 = .ok (.iload_n 1, 1) := by decide +kernel
theorem d_Arrays_copyOf3_1 : decode b_Arrays_copyOf3 1 = .ok (.aload_n 0, 1) := by decide +kernel
theorem d_Arrays_copyOf3_2 : decode b_Arrays_copyOf3 2 = .ok (.arraylength, 1) := by decide +kernel
theorem d_Arrays_copyOf3_3 : decode b_Arrays_copyOf3 3 = .ok (.if_icmp .ne 11, 3) := by decide +kernel
theorem d_Arrays_copyOf3_6 : decode b_Arrays_copyOf3 6 = .ok (.aload_n 0, 1) := by decide +kernel
theorem d_Arrays_copyOf3_7 : decode b_Arrays_copyOf3 7 = .ok (.invokevirtual 316, 3) := by decide +kernel
theorem d_Arrays_copyOf3_10 : decode b_Arrays_copyOf3 10 = .ok (.checkcast 317, 3) := by decide +kernel
theorem d_Arrays_copyOf3_13 : decode b_Arrays_copyOf3 13 = .ok (.areturn, 1) := by decide +kernel
theorem d_Arrays_copyOf3_14 : decode b_Arrays_copyOf3 14 = .ok (.iload_n 1, 1) := by decide +kernel
theorem d_Arrays_copyOf3_15 : decode b_Arrays_copyOf3 15 = .ok (.newarray .int, 2) := by decide +kernel
theorem d_Arrays_copyOf3_17 : decode b_Arrays_copyOf3 17 = .ok (.astore_n 2, 1) := by decide +kernel
theorem d_Arrays_copyOf3_18 : decode b_Arrays_copyOf3 18 = .ok (.aload_n 0, 1) := by decide +kernel
theorem d_Arrays_copyOf3_19 : decode b_Arrays_copyOf3 19 = .ok (.iconst 0, 1) := by decide +kernel
theorem d_Arrays_copyOf3_20 : decode b_Arrays_copyOf3 20 = .ok (.aload_n 2, 1) := by decide +kernel
theorem d_Arrays_copyOf3_21 : decode b_Arrays_copyOf3 21 = .ok (.iconst 0, 1) := by decide +kernel
theorem d_Arrays_copyOf3_22 : decode b_Arrays_copyOf3 22 = .ok (.aload_n 0, 1) := by decide +kernel
theorem d_Arrays_copyOf3_23 : decode b_Arrays_copyOf3 23 = .ok (.arraylength, 1) := by decide +kernel
theorem d_Arrays_copyOf3_24 : decode b_Arrays_copyOf3 24 = .ok (.iload_n 1, 1) := by decide +kernel
theorem d_Arrays_copyOf3_25 : decode b_Arrays_copyOf3 25 = .ok (.invokestatic 304, 3) := by decide +kernel
theorem d_Arrays_copyOf3_28 : decode b_Arrays_copyOf3 28 = .ok (.invokestatic 150, 3) := by decide +kernel
theorem d_Arrays_copyOf3_31 : decode b_Arrays_copyOf3 31 = .ok (.aload_n 2, 1) := by decide +kernel
theorem d_Arrays_copyOf3_32 : decode b_Arrays_copyOf3 32 = .ok (.areturn, 1) := by decide +kernel
def F_Arrays_copyOf3 (a0 : Option Nat) (a1 : Int32) (mm : gM) : Option (Option Nat × gM) :=
  gb1 (glen a0 mm) fun v1 =>
  if a1 = v1 then (
    gb2 (gclI 0 a0 mm) fun v4 mm6 =>
    gb1 (gcsA 0 v4 mm6) fun u7 =>
    some (v4, mm6))
  else (
    gb2 (gnI 0 a1 mm) fun v9 mm11 =>
    gb1 (glen a0 mm11) fun v12 =>
    gLet (if a1 < v12 then a1 else v12) fun x14 =>
    gb1 (gcI 0 a0 (0 : Int32) v9 (0 : Int32) x14 mm11) fun mm15 =>
    some (v9, mm15))
set_option maxHeartbeats 8000000 in
set_option maxRecDepth 100000 in
theorem w_Arrays_copyOf3 {l : Launch} {E : gD} {n0 s0 : Nat} {a0 : Option Nat} {a1 : Int32} {r : Option Nat} {mm res : gM} (h : F_Arrays_copyOf3 a0 a1 mm = some (r, res)) : xX l E Y_Arrays_copyOf3 n0 s0 (some (va_rf r)) res 0 [(0, .inr (.inr a0)), (1, .inl a1)] [] mm := by
  unfold F_Arrays_copyOf3 at h
  refine x_iloadn 0 1 d_Arrays_copyOf3_0 rfl rfl ?_
  refine x_aloadn 1 0 d_Arrays_copyOf3_1 rfl rfl ?_
  replace h := gb1_elim h; obtain ⟨v1, h2, h⟩ := h
  refine x_alen 2 h2 d_Arrays_copyOf3_2 ?_
  refine x_icmp_ne 3 14 d_Arrays_copyOf3_3 (by decide) (fun c3 => ?_) (fun c3 => ?_)
  · replace h := gif_t h c3
    refine x_aloadn 6 0 d_Arrays_copyOf3_6 rfl rfl ?_
    replace h := gb2_elim h; obtain ⟨v4, mm6, h5, h⟩ := h
    refine x_cloneI 7 cl_Arrays_316 rfl h5 (by decide) (Nat.le_of_ble_eq_true rfl) d_Arrays_copyOf3_7 ?_
    replace h := gb1_elim h; obtain ⟨u7, h8, h⟩ := h
    refine x_castI 10 rfl h8 (gT_in2 95 rfl) d_Arrays_copyOf3_10 ?_
    cases h
    exact x_areturn 13 rfl (Or.inr ⟨_, rfl⟩) d_Arrays_copyOf3_13
  · replace h := gif_f h c3
    refine x_iloadn 14 1 d_Arrays_copyOf3_14 rfl rfl ?_
    replace h := gb2_elim h; obtain ⟨v9, mm11, h10, h⟩ := h
    refine x_newI 15 (by decide) rfl (gT_in0 60 rfl) h10 d_Arrays_copyOf3_15 ?_
    refine x_astoren 17 (lv' := [(2, .inr (.inr v9)), (0, .inr (.inr a0)), (1, .inl a1)]) d_Arrays_copyOf3_17 rfl (by decide) rfl ?_
    refine x_aloadn 18 1 d_Arrays_copyOf3_18 rfl rfl ?_
    refine x_iconst 19 d_Arrays_copyOf3_19 (v := (0 : Int32)) (by decide +kernel) ?_
    refine x_aloadn 20 0 d_Arrays_copyOf3_20 rfl rfl ?_
    refine x_iconst 21 d_Arrays_copyOf3_21 (v := (0 : Int32)) (by decide +kernel) ?_
    refine x_aloadn 22 1 d_Arrays_copyOf3_22 rfl rfl ?_
    replace h := gb1_elim h; obtain ⟨v12, h13, h⟩ := h
    refine x_alen 23 h13 d_Arrays_copyOf3_23 ?_
    refine x_iloadn 24 2 d_Arrays_copyOf3_24 rfl rfl ?_
    refine x_mmin 25 (gT_in1 19 rfl) (gT_in1 20 rfl) (gT_in0 11 rfl) (gT_in1 21 rfl) (by decide) (Nat.le_of_ble_eq_true rfl) d_Arrays_copyOf3_25 ?_
    replace h := gLet_elim h; obtain ⟨x14, ex14, h⟩ := h
    refine x_topi ex14 ?_
    replace h := gb1_elim h; obtain ⟨mm15, h16, h⟩ := h
    refine x_copyI 28 (by decide) rfl ac_Arrays_150 h16 (by decide) (by decide +kernel) d_Arrays_copyOf3_28 ?_
    refine x_aloadn 31 0 d_Arrays_copyOf3_31 rfl rfl ?_
    cases h
    exact x_areturn 32 rfl (Or.inr ⟨_, rfl⟩) d_Arrays_copyOf3_32
theorem k_Arrays_copyOf3 {a0 : Option Nat} {a1 : Int32} {r : Option Nat} {mm res : gM} (h : F_Arrays_copyOf3 a0 a1 mm = some (r, res)) : ∀ (l : Launch) (E : gD), gLe mm res ∧ gMet l E Y_Arrays_copyOf3 y_Arrays_copyOf3 [.inr (.inr a0), .inl a1] (some (va_rf r)) mm res :=
  fun l E => ⟨(w_Arrays_copyOf3 (l := l) (E := E) (n0 := 0) (s0 := 0) h).1, x_met (by decide +kernel) rfl rfl rfl (Nat.le_of_ble_eq_true rfl) (w_Arrays_copyOf3 h)⟩
theorem d_Settling_init_0 : decode b_Settling_init 0 = .ok (.aload_n 0, 1) := by decide +kernel
theorem d_Settling_init_1 : decode b_Settling_init 1 = .ok (.invokespecial 3, 3) := by decide +kernel
theorem d_Settling_init_4 : decode b_Settling_init 4 = .ok (.aload_n 0, 1) := by decide +kernel
theorem d_Settling_init_5 : decode b_Settling_init 5 = .ok (.iload_n 1, 1) := by decide +kernel
theorem d_Settling_init_6 : decode b_Settling_init 6 = .ok (.putfield 9, 3) := by decide +kernel
theorem d_Settling_init_9 : decode b_Settling_init 9 = .ok (.aload_n 0, 1) := by decide +kernel
theorem d_Settling_init_10 : decode b_Settling_init 10 = .ok (.iload_n 2, 1) := by decide +kernel
theorem d_Settling_init_11 : decode b_Settling_init 11 = .ok (.putfield 15, 3) := by decide +kernel
theorem d_Settling_init_14 : decode b_Settling_init 14 = .ok (.aload_n 0, 1) := by decide +kernel
theorem d_Settling_init_15 : decode b_Settling_init 15 = .ok (.aload_n 3, 1) := by decide +kernel
theorem d_Settling_init_16 : decode b_Settling_init 16 = .ok (.getfield 18, 3) := by decide +kernel
theorem d_Settling_init_19 : decode b_Settling_init 19 = .ok (.bipush 8, 2) := by decide +kernel
theorem d_Settling_init_21 : decode b_Settling_init 21 = .ok (.invokestatic 24, 3) := by decide +kernel
theorem d_Settling_init_24 : decode b_Settling_init 24 = .ok (.putfield 30, 3) := by decide +kernel
theorem d_Settling_init_27 : decode b_Settling_init 27 = .ok (.return_, 1) := by decide +kernel
def F_Settling_init (b : Nat) (a0 : Int32) (a1 : Int32) (a2 : Option Nat) (mm : gM) : Option (Unit × gM) :=
  gb1 (gpV 6 0 (some b) (.int a0) mm) fun mm1 =>
  gb1 (gpV 6 1 (some b) (.int a1) mm1) fun mm3 =>
  gb1 (gfR 8 0 a2 mm3) fun v5 =>
  gb2 (F_Arrays_copyOf3 v5 (8 : Int32) mm3) fun v7 mm8 =>
  gb1 (gpV 6 2 (some b) (va_rf v7) mm8) fun mm10 =>
  some ((), mm10)
set_option maxHeartbeats 8000000 in
set_option maxRecDepth 100000 in
theorem w_Settling_init {l : Launch} {E : gD} {n0 s0 : Nat} {b : Nat} {a0 : Int32} {a1 : Int32} {a2 : Option Nat} {r : Unit} {mm res : gM} (h : F_Settling_init b a0 a1 a2 mm = some (r, res)) : xX l E Y_Settling_init n0 s0 none res 0 [(0, .inr (.inr (some b))), (1, .inl a0), (2, .inl a1), (3, .inr (.inr a2))] [] mm := by
  unfold F_Settling_init at h
  refine x_aloadn 0 0 d_Settling_init_0 rfl rfl ?_
  refine x_objinit 1 rfl (gT_in2 86 rfl) (gT_in0 26 rfl) (gT_in0 27 rfl) (by decide) (by decide) d_Settling_init_1 ?_
  refine x_aloadn 4 0 d_Settling_init_4 rfl rfl ?_
  refine x_iloadn 5 1 d_Settling_init_5 rfl rfl ?_
  replace h := gb1_elim h; obtain ⟨mm1, h2, h⟩ := h
  refine x_putF 6 fp_Settling_9 rfl rfl rfl h2 d_Settling_init_6 ?_
  refine x_aloadn 9 0 d_Settling_init_9 rfl rfl ?_
  refine x_iloadn 10 2 d_Settling_init_10 rfl rfl ?_
  replace h := gb1_elim h; obtain ⟨mm3, h4, h⟩ := h
  refine x_putF 11 fp_Settling_15 rfl rfl rfl h4 d_Settling_init_11 ?_
  refine x_aloadn 14 0 d_Settling_init_14 rfl rfl ?_
  refine x_aloadn 15 3 d_Settling_init_15 rfl rfl ?_
  replace h := gb1_elim h; obtain ⟨v5, h6, h⟩ := h
  refine x_getR 16 h6 fl_Settling_18 d_Settling_init_16 ?_
  refine x_bipush 19 d_Settling_init_19 (v := (8 : Int32)) (by decide +kernel) ?_
  replace h := gb2_elim h; obtain ⟨v7, mm8, h9, h⟩ := h
  refine x_callS 21 2 (as := [.inr (.inr v5), .inl (8 : Int32)]) (st' := [.inr (.inr (some b))]) (rs := [.inr (.inr v7)]) (k_Arrays_copyOf3 h9) rfl cf_Settling_24 ⟨rfl, by decide +kernel, by decide, by decide, Nat.le_of_ble_eq_true rfl⟩ rfl d_Settling_init_21 ?_
  replace h := gb1_elim h; obtain ⟨mm10, h11, h⟩ := h
  refine x_putF 24 fp_Settling_30 rfl (g_nA _ _) (g_fA _ _) h11 d_Settling_init_24 ?_
  cases h
  exact x_return 27 rfl d_Settling_init_27
theorem k_Settling_init {b : Nat} {a0 : Int32} {a1 : Int32} {a2 : Option Nat} {r : Unit} {mm res : gM} (h : F_Settling_init b a0 a1 a2 mm = some (r, res)) : ∀ (l : Launch) (E : gD), gLe mm res ∧ gMet l E Y_Settling_init y_Settling_init [.inr (.inr (some b)), .inl a0, .inl a1, .inr (.inr a2)] none mm res :=
  fun l E => ⟨(w_Settling_init (l := l) (E := E) (n0 := 0) (s0 := 0) h).1, x_met (by decide +kernel) rfl rfl rfl (Nat.le_of_ble_eq_true rfl) (w_Settling_init h)⟩
