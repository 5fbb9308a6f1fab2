-- M_isOf M_findCurrent M_counts
theorem d_M_isOf_0 : decode b_M_isOf 0 = .ok (.aload_n 0, 1) := by decide +kernel
theorem d_M_isOf_1 : decode b_M_isOf 1 = .ok (.getfield 33, 3) := by decide +kernel
theorem d_M_isOf_4 : decode b_M_isOf 4 = .ok (.sipush 200, 3) := by decide +kernel
theorem d_M_isOf_7 : decode b_M_isOf 7 = .ok (.iload_n 1, 1) := by decide +kernel
theorem d_M_isOf_8 : decode b_M_isOf 8 = .ok (.imul, 1) := by decide +kernel
theorem d_M_isOf_9 : decode b_M_isOf 9 = .ok (.iload_n 2, 1) := by decide +kernel
theorem d_M_isOf_10 : decode b_M_isOf 10 = .ok (.iadd, 1) := by decide +kernel
theorem d_M_isOf_11 : decode b_M_isOf 11 = .ok (.baload, 1) := by decide +kernel
theorem d_M_isOf_12 : decode b_M_isOf 12 = .ok (.ifCond .eq 39, 3) := by decide +kernel
theorem d_M_isOf_15 : decode b_M_isOf 15 = .ok (.aload_n 0, 1) := by decide +kernel
theorem d_M_isOf_16 : decode b_M_isOf 16 = .ok (.getfield 20, 3) := by decide +kernel
theorem d_M_isOf_19 : decode b_M_isOf 19 = .ok (.iload_n 2, 1) := by decide +kernel
theorem d_M_isOf_20 : decode b_M_isOf 20 = .ok (.iaload, 1) := by decide +kernel
theorem d_M_isOf_21 : decode b_M_isOf 21 = .ok (.iload_n 3, 1) := by decide +kernel
theorem d_M_isOf_22 : decode b_M_isOf 22 = .ok (.if_icmp .ne 29, 3) := by decide +kernel
theorem d_M_isOf_25 : decode b_M_isOf 25 = .ok (.aload_n 0, 1) := by decide +kernel
theorem d_M_isOf_26 : decode b_M_isOf 26 = .ok (.getfield 23, 3) := by decide +kernel
theorem d_M_isOf_29 : decode b_M_isOf 29 = .ok (.iload_n 2, 1) := by decide +kernel
theorem d_M_isOf_30 : decode b_M_isOf 30 = .ok (.iaload, 1) := by decide +kernel
theorem d_M_isOf_31 : decode b_M_isOf 31 = .ok (.iload 4, 2) := by decide +kernel
theorem d_M_isOf_33 : decode b_M_isOf 33 = .ok (.if_icmp .ne 18, 3) := by decide +kernel
theorem d_M_isOf_36 : decode b_M_isOf 36 = .ok (.aload_n 0, 1) := by decide +kernel
theorem d_M_isOf_37 : decode b_M_isOf 37 = .ok (.getfield 30, 3) := by decide +kernel
theorem d_M_isOf_40 : decode b_M_isOf 40 = .ok (.iload_n 2, 1) := by decide +kernel
theorem d_M_isOf_41 : decode b_M_isOf 41 = .ok (.iaload, 1) := by decide +kernel
theorem d_M_isOf_42 : decode b_M_isOf 42 = .ok (.iload 5, 2) := by decide +kernel
theorem d_M_isOf_44 : decode b_M_isOf 44 = .ok (.if_icmp .gt 7, 3) := by decide +kernel
theorem d_M_isOf_47 : decode b_M_isOf 47 = .ok (.iconst 1, 1) := by decide +kernel
theorem d_M_isOf_48 : decode b_M_isOf 48 = .ok (.goto 4, 3) := by decide +kernel
theorem d_M_isOf_51 : decode b_M_isOf 51 = .ok (.iconst 0, 1) := by decide +kernel
theorem d_M_isOf_52 : decode b_M_isOf 52 = .ok (.ireturn, 1) := by decide +kernel
def F_M_isOf (b : Nat) (a0 : Int32) (a1 : Int32) (a2 : Int32) (a3 : Int32) (a4 : Int32) (mm : gM) : Option (Int32 × gM) :=
  gb1 (gfR 10 10 (some b) mm) fun v1 =>
  gb1 (gaI 2 v1 (((200 : Int32) * a0) + a1) mm) fun v3 =>
  if v3 = 0 then (
    some ((0 : Int32), mm))
  else (
    gb1 (gfR 10 5 (some b) mm) fun v6 =>
    gb1 (gaI 0 v6 a1 mm) fun v8 =>
    if v8 = a2 then (
      gb1 (gfR 10 6 (some b) mm) fun v11 =>
      gb1 (gaI 0 v11 a1 mm) fun v13 =>
      if v13 = a3 then (
        gb1 (gfR 10 8 (some b) mm) fun v16 =>
        gb1 (gaI 0 v16 a1 mm) fun v18 =>
        if a4 < v18 then (
          some ((0 : Int32), mm))
        else (
          some ((1 : Int32), mm)))
      else (
        some ((0 : Int32), mm)))
    else (
      some ((0 : Int32), mm)))
set_option maxHeartbeats 8000000 in
set_option maxRecDepth 100000 in
theorem w_M_isOf {l : Launch} {E : gD} {n0 s0 : Nat} {b : Nat} {a0 : Int32} {a1 : Int32} {a2 : Int32} {a3 : Int32} {a4 : Int32} {r : Int32} {mm res : gM} (h : F_M_isOf b a0 a1 a2 a3 a4 mm = some (r, res)) : xX l E Y_M_isOf n0 s0 (some (.int r)) res 0 [(0, .inr (.inr (some b))), (1, .inl a0), (2, .inl a1), (3, .inl a2), (4, .inl a3), (5, .inl a4)] [] mm := by
  unfold F_M_isOf at h
  refine x_aloadn 0 0 d_M_isOf_0 rfl rfl ?_
  replace h := gb1_elim h; obtain ⟨v1, h2, h⟩ := h
  refine x_getR 1 h2 fl_M_33 d_M_isOf_1 ?_
  refine x_sipush 4 d_M_isOf_4 (v := (200 : Int32)) (by decide +kernel) ?_
  refine x_iloadn 7 1 d_M_isOf_7 rfl rfl ?_
  refine x_imul 8 d_M_isOf_8 ?_
  refine x_iloadn 9 2 d_M_isOf_9 rfl rfl ?_
  refine x_iadd 10 d_M_isOf_10 ?_
  replace h := gb1_elim h; obtain ⟨v3, h4, h⟩ := h
  refine x_zald 11 rfl h4 d_M_isOf_11 ?_
  refine x_if_eq 12 51 d_M_isOf_12 (by decide) (fun c5 => ?_) (fun c5 => ?_)
  · replace h := gif_t h c5
    refine x_iconst 51 d_M_isOf_51 (v := (0 : Int32)) (by decide +kernel) ?_
    cases h
    exact x_zreturn 52 (by decide) rfl d_M_isOf_52
  · replace h := gif_f h c5
    refine x_aloadn 15 0 d_M_isOf_15 rfl rfl ?_
    replace h := gb1_elim h; obtain ⟨v6, h7, h⟩ := h
    refine x_getR 16 h7 fl_M_20 d_M_isOf_16 ?_
    refine x_iloadn 19 2 d_M_isOf_19 rfl rfl ?_
    replace h := gb1_elim h; obtain ⟨v8, h9, h⟩ := h
    refine x_iald 20 rfl h9 d_M_isOf_20 ?_
    refine x_iloadn 21 3 d_M_isOf_21 rfl rfl ?_
    refine x_icmp_ne 22 51 d_M_isOf_22 (by decide) (fun c10 => ?_) (fun c10 => ?_)
    · replace h := gif_t h c10
      refine x_aloadn 25 0 d_M_isOf_25 rfl rfl ?_
      replace h := gb1_elim h; obtain ⟨v11, h12, h⟩ := h
      refine x_getR 26 h12 fl_M_23 d_M_isOf_26 ?_
      refine x_iloadn 29 2 d_M_isOf_29 rfl rfl ?_
      replace h := gb1_elim h; obtain ⟨v13, h14, h⟩ := h
      refine x_iald 30 rfl h14 d_M_isOf_30 ?_
      refine x_iload 31 4 d_M_isOf_31 rfl ?_
      refine x_icmp_ne 33 51 d_M_isOf_33 (by decide) (fun c15 => ?_) (fun c15 => ?_)
      · replace h := gif_t h c15
        refine x_aloadn 36 0 d_M_isOf_36 rfl rfl ?_
        replace h := gb1_elim h; obtain ⟨v16, h17, h⟩ := h
        refine x_getR 37 h17 fl_M_30 d_M_isOf_37 ?_
        refine x_iloadn 40 2 d_M_isOf_40 rfl rfl ?_
        replace h := gb1_elim h; obtain ⟨v18, h19, h⟩ := h
        refine x_iald 41 rfl h19 d_M_isOf_41 ?_
        refine x_iload 42 5 d_M_isOf_42 rfl ?_
        refine x_icmp_gt 44 51 d_M_isOf_44 (by decide) (fun c20 => ?_) (fun c20 => ?_)
        · replace h := gif_t h c20
          refine x_iconst 51 d_M_isOf_51 (v := (0 : Int32)) (by decide +kernel) ?_
          cases h
          exact x_zreturn 52 (by decide) rfl d_M_isOf_52
        · replace h := gif_f h c20
          refine x_iconst 47 d_M_isOf_47 (v := (1 : Int32)) (by decide +kernel) ?_
          refine x_goto 48 52 d_M_isOf_48 (by decide) ?_
          cases h
          exact x_zreturn 52 (by decide) rfl d_M_isOf_52
      · replace h := gif_f h c15
        refine x_iconst 51 d_M_isOf_51 (v := (0 : Int32)) (by decide +kernel) ?_
        cases h
        exact x_zreturn 52 (by decide) rfl d_M_isOf_52
    · replace h := gif_f h c10
      refine x_iconst 51 d_M_isOf_51 (v := (0 : Int32)) (by decide +kernel) ?_
      cases h
      exact x_zreturn 52 (by decide) rfl d_M_isOf_52
theorem k_M_isOf {b : Nat} {a0 : Int32} {a1 : Int32} {a2 : Int32} {a3 : Int32} {a4 : Int32} {r : Int32} {mm res : gM} (h : F_M_isOf b a0 a1 a2 a3 a4 mm = some (r, res)) : ∀ (l : Launch) (E : gD), gLe mm res ∧ gMet l E Y_M_isOf y_M_isOf [.inr (.inr (some b)), .inl a0, .inl a1, .inl a2, .inl a3, .inl a4] (some (.int r)) mm res :=
  fun l E => ⟨(w_M_isOf (l := l) (E := E) (n0 := 0) (s0 := 0) h).1, x_met (by decide +kernel) rfl rfl rfl (Nat.le_of_ble_eq_true rfl) (w_M_isOf h)⟩
theorem d_M_findCurrent_0 : decode b_M_findCurrent 0 = .ok (.iconst 0, 1) := by decide +kernel
theorem d_M_findCurrent_1 : decode b_M_findCurrent 1 = .ok (.istore 5, 2) := by decide +kernel
theorem d_M_findCurrent_3 : decode b_M_findCurrent 3 = .ok (.iconst 0, 1) := by decide +kernel
theorem d_M_findCurrent_4 : decode b_M_findCurrent 4 = .ok (.istore 6, 2) := by decide +kernel
theorem d_M_findCurrent_6 : decode b_M_findCurrent 6 = .ok (.iload 6, 2) := by decide +kernel
theorem d_M_findCurrent_8 : decode b_M_findCurrent 8 = .ok (.aload_n 0, 1) := by decide +kernel
theorem d_M_findCurrent_9 : decode b_M_findCurrent 9 = .ok (.getfield 89, 3) := by decide +kernel
theorem d_M_findCurrent_12 : decode b_M_findCurrent 12 = .ok (.if_icmp .ge 124, 3) := by decide +kernel
theorem d_M_findCurrent_15 : decode b_M_findCurrent 15 = .ok (.aload_n 0, 1) := by decide +kernel
theorem d_M_findCurrent_16 : decode b_M_findCurrent 16 = .ok (.iload_n 1, 1) := by decide +kernel
theorem d_M_findCurrent_17 : decode b_M_findCurrent 17 = .ok (.iload 6, 2) := by decide +kernel
theorem d_M_findCurrent_19 : decode b_M_findCurrent 19 = .ok (.iload_n 2, 1) := by decide +kernel
theorem d_M_findCurrent_20 : decode b_M_findCurrent 20 = .ok (.iload_n 3, 1) := by decide +kernel
theorem d_M_findCurrent_21 : decode b_M_findCurrent 21 = .ok (.iload 4, 2) := by decide +kernel
theorem d_M_findCurrent_23 : decode b_M_findCurrent 23 = .ok (.invokevirtual 116, 3) := by decide +kernel
theorem d_M_findCurrent_26 : decode b_M_findCurrent 26 = .ok (.istore 7, 2) := by decide +kernel
theorem d_M_findCurrent_28 : decode b_M_findCurrent 28 = .ok (.iconst 0, 1) := by decide +kernel
theorem d_M_findCurrent_29 : decode b_M_findCurrent 29 = .ok (.istore 8, 2) := by decide +kernel
theorem d_M_findCurrent_31 : decode b_M_findCurrent 31 = .ok (.iload 8, 2) := by decide +kernel
theorem d_M_findCurrent_33 : decode b_M_findCurrent 33 = .ok (.aload_n 0, 1) := by decide +kernel
theorem d_M_findCurrent_34 : decode b_M_findCurrent 34 = .ok (.getfield 89, 3) := by decide +kernel
theorem d_M_findCurrent_37 : decode b_M_findCurrent 37 = .ok (.if_icmp .ge 69, 3) := by decide +kernel
theorem d_M_findCurrent_40 : decode b_M_findCurrent 40 = .ok (.iload 7, 2) := by decide +kernel
theorem d_M_findCurrent_42 : decode b_M_findCurrent 42 = .ok (.ifCond .eq 64, 3) := by decide +kernel
theorem d_M_findCurrent_45 : decode b_M_findCurrent 45 = .ok (.aload_n 0, 1) := by decide +kernel
theorem d_M_findCurrent_46 : decode b_M_findCurrent 46 = .ok (.getfield 13, 3) := by decide +kernel
theorem d_M_findCurrent_49 : decode b_M_findCurrent 49 = .ok (.iload 8, 2) := by decide +kernel
theorem d_M_findCurrent_51 : decode b_M_findCurrent 51 = .ok (.iaload, 1) := by decide +kernel
theorem d_M_findCurrent_52 : decode b_M_findCurrent 52 = .ok (.aload_n 0, 1) := by decide +kernel
theorem d_M_findCurrent_53 : decode b_M_findCurrent 53 = .ok (.getfield 13, 3) := by decide +kernel
theorem d_M_findCurrent_56 : decode b_M_findCurrent 56 = .ok (.iload 6, 2) := by decide +kernel
theorem d_M_findCurrent_58 : decode b_M_findCurrent 58 = .ok (.iaload, 1) := by decide +kernel
theorem d_M_findCurrent_59 : decode b_M_findCurrent 59 = .ok (.if_icmp .ne 34, 3) := by decide +kernel
theorem d_M_findCurrent_62 : decode b_M_findCurrent 62 = .ok (.aload_n 0, 1) := by decide +kernel
theorem d_M_findCurrent_63 : decode b_M_findCurrent 63 = .ok (.getfield 17, 3) := by decide +kernel
theorem d_M_findCurrent_66 : decode b_M_findCurrent 66 = .ok (.iload 8, 2) := by decide +kernel
theorem d_M_findCurrent_68 : decode b_M_findCurrent 68 = .ok (.iaload, 1) := by decide +kernel
theorem d_M_findCurrent_69 : decode b_M_findCurrent 69 = .ok (.aload_n 0, 1) := by decide +kernel
theorem d_M_findCurrent_70 : decode b_M_findCurrent 70 = .ok (.getfield 17, 3) := by decide +kernel
theorem d_M_findCurrent_73 : decode b_M_findCurrent 73 = .ok (.iload 6, 2) := by decide +kernel
theorem d_M_findCurrent_75 : decode b_M_findCurrent 75 = .ok (.iaload, 1) := by decide +kernel
theorem d_M_findCurrent_76 : decode b_M_findCurrent 76 = .ok (.if_icmp .le 17, 3) := by decide +kernel
theorem d_M_findCurrent_79 : decode b_M_findCurrent 79 = .ok (.aload_n 0, 1) := by decide +kernel
theorem d_M_findCurrent_80 : decode b_M_findCurrent 80 = .ok (.iload_n 1, 1) := by decide +kernel
theorem d_M_findCurrent_81 : decode b_M_findCurrent 81 = .ok (.iload 8, 2) := by decide +kernel
theorem d_M_findCurrent_83 : decode b_M_findCurrent 83 = .ok (.iload_n 2, 1) := by decide +kernel
theorem d_M_findCurrent_84 : decode b_M_findCurrent 84 = .ok (.iload_n 3, 1) := by decide +kernel
theorem d_M_findCurrent_85 : decode b_M_findCurrent 85 = .ok (.iload 4, 2) := by decide +kernel
theorem d_M_findCurrent_87 : decode b_M_findCurrent 87 = .ok (.invokevirtual 116, 3) := by decide +kernel
theorem d_M_findCurrent_90 : decode b_M_findCurrent 90 = .ok (.ifCond .ne 7, 3) := by decide +kernel
theorem d_M_findCurrent_93 : decode b_M_findCurrent 93 = .ok (.iconst 1, 1) := by decide +kernel
theorem d_M_findCurrent_94 : decode b_M_findCurrent 94 = .ok (.goto 4, 3) := by decide +kernel
theorem d_M_findCurrent_97 : decode b_M_findCurrent 97 = .ok (.iconst 0, 1) := by decide +kernel
theorem d_M_findCurrent_98 : decode b_M_findCurrent 98 = .ok (.istore 7, 2) := by decide +kernel
theorem d_M_findCurrent_100 : decode b_M_findCurrent 100 = .ok (.iinc 8 1, 3) := by decide +kernel
theorem d_M_findCurrent_103 : decode b_M_findCurrent 103 = .ok (.goto (-72), 3) := by decide +kernel
theorem d_M_findCurrent_106 : decode b_M_findCurrent 106 = .ok (.aload_n 0, 1) := by decide +kernel
theorem d_M_findCurrent_107 : decode b_M_findCurrent 107 = .ok (.getfield 79, 3) := by decide +kernel
theorem d_M_findCurrent_110 : decode b_M_findCurrent 110 = .ok (.iload 6, 2) := by decide +kernel
theorem d_M_findCurrent_112 : decode b_M_findCurrent 112 = .ok (.iload 7, 2) := by decide +kernel
theorem d_M_findCurrent_114 : decode b_M_findCurrent 114 = .ok (.bastore, 1) := by decide +kernel
theorem d_M_findCurrent_115 : decode b_M_findCurrent 115 = .ok (.iload 5, 2) := by decide +kernel
theorem d_M_findCurrent_117 : decode b_M_findCurrent 117 = .ok (.iload 7, 2) := by decide +kernel
theorem d_M_findCurrent_119 : decode b_M_findCurrent 119 = .ok (.ifCond .eq 7, 3) := by decide +kernel
theorem d_M_findCurrent_122 : decode b_M_findCurrent 122 = .ok (.iconst 1, 1) := by decide +kernel
theorem d_M_findCurrent_123 : decode b_M_findCurrent 123 = .ok (.goto 4, 3) := by decide +kernel
theorem d_M_findCurrent_126 : decode b_M_findCurrent 126 = .ok (.iconst 0, 1) := by decide +kernel
theorem d_M_findCurrent_127 : decode b_M_findCurrent 127 = .ok (.iadd, 1) := by decide +kernel
theorem d_M_findCurrent_128 : decode b_M_findCurrent 128 = .ok (.istore 5, 2) := by decide +kernel
theorem d_M_findCurrent_130 : decode b_M_findCurrent 130 = .ok (.iinc 6 1, 3) := by decide +kernel
theorem d_M_findCurrent_133 : decode b_M_findCurrent 133 = .ok (.goto (-127), 3) := by decide +kernel
theorem d_M_findCurrent_136 : decode b_M_findCurrent 136 = .ok (.iload 5, 2) := by decide +kernel
theorem d_M_findCurrent_138 : decode b_M_findCurrent 138 = .ok (.ireturn, 1) := by decide +kernel
def L_M_findCurrent_31 (k106 : Option Nat → Int32 → Int32 → Int32 → Int32 → Int32 → Int32 → Int32 → gM → Option (Int32 × gM)) : Nat → Option Nat → Int32 → Int32 → Int32 → Int32 → Int32 → Int32 → Int32 → Int32 → gM → Option (Int32 × gM)
  | 0, _, _, _, _, _, _, _, _, _, _ => none
  | f + 1, p0, p1, p2, p3, p4, p5, p6, p7, p8, mm =>
    gb1 (gfI 10 2 p0 mm) fun v9 =>
    if v9 ≤ p8 then (
      k106 p0 p1 p2 p3 p4 p5 p6 p7 mm)
    else (
      if p7 = 0 then (
        k106 p0 p1 p2 p3 p4 p5 p6 p7 mm)
      else (
        gb1 (gfR 10 3 p0 mm) fun v13 =>
        gb1 (gaI 0 v13 p8 mm) fun v15 =>
        gb1 (gfR 10 3 p0 mm) fun v17 =>
        gb1 (gaI 0 v17 p6 mm) fun v19 =>
        if v15 = v19 then (
          gb1 (gfR 10 4 p0 mm) fun v22 =>
          gb1 (gaI 0 v22 p8 mm) fun v24 =>
          gb1 (gfR 10 4 p0 mm) fun v26 =>
          gb1 (gaI 0 v26 p6 mm) fun v28 =>
          if v24 ≤ v28 then (
            gLet (p8 + 1) fun x31 =>
            L_M_findCurrent_31 k106 f p0 p1 p2 p3 p4 p5 p6 (1 : Int32) x31 mm)
          else (
            gb1 (grc 10 p0 mm) fun b35 =>
            gb2 (F_M_isOf b35 p1 p8 p2 p3 p4 mm) fun v32 mm33 =>
            if v32 = 0 then (
              gLet (p8 + 1) fun x38 =>
              L_M_findCurrent_31 k106 f p0 p1 p2 p3 p4 p5 p6 (1 : Int32) x38 mm33)
            else (
              gLet (p8 + 1) fun x39 =>
              L_M_findCurrent_31 k106 f p0 p1 p2 p3 p4 p5 p6 (0 : Int32) x39 mm33)))
        else (
          gLet (p8 + 1) fun x40 =>
          L_M_findCurrent_31 k106 f p0 p1 p2 p3 p4 p5 p6 (1 : Int32) x40 mm)))
set_option maxHeartbeats 4000000 in
set_option maxRecDepth 100000 in
theorem wL_M_findCurrent_31 {l : Launch} {E : gD} {n0 s0 : Nat} {r : Int32} {res : gM} {k106 : Option Nat → Int32 → Int32 → Int32 → Int32 → Int32 → Int32 → Int32 → gM → Option (Int32 × gM)} (hk106 : ∀ (p0 : Option Nat) (p1 : Int32) (p2 : Int32) (p3 : Int32) (p4 : Int32) (p5 : Int32) (p6 : Int32) (p7 : Int32) (mm : gM), k106 p0 p1 p2 p3 p4 p5 p6 p7 mm = some (r, res) → xX l E Y_M_findCurrent n0 s0 (some (.int r)) res 106 [(0, .inr (.inr p0)), (1, .inl p1), (2, .inl p2), (3, .inl p3), (4, .inl p4), (5, .inl p5), (6, .inl p6), (7, .inl p7)] [] mm) : ∀ (f : Nat) (p0 : Option Nat) (p1 : Int32) (p2 : Int32) (p3 : Int32) (p4 : Int32) (p5 : Int32) (p6 : Int32) (p7 : Int32) (p8 : Int32) (mm : gM), L_M_findCurrent_31 k106 f p0 p1 p2 p3 p4 p5 p6 p7 p8 mm = some (r, res) → xX l E Y_M_findCurrent n0 s0 (some (.int r)) res 31 [(0, .inr (.inr p0)), (1, .inl p1), (2, .inl p2), (3, .inl p3), (4, .inl p4), (5, .inl p5), (6, .inl p6), (7, .inl p7), (8, .inl p8)] [] mm := by
  intro f
  induction f with
  | zero =>
    intro p0 p1 p2 p3 p4 p5 p6 p7 p8 mm h
    rw [L_M_findCurrent_31] at h
    cases h
  | succ f ih =>
    intro p0 p1 p2 p3 p4 p5 p6 p7 p8 mm h
    rw [L_M_findCurrent_31] at h
    refine x_iload 31 8 d_M_findCurrent_31 rfl ?_
    refine x_aloadn 33 0 d_M_findCurrent_33 rfl rfl ?_
    replace h := gb1_elim h; obtain ⟨v9, h10, h⟩ := h
    refine x_getI 34 h10 fl_M_89 d_M_findCurrent_34 ?_
    refine x_icmp_ge 37 106 d_M_findCurrent_37 (by decide) (fun c11 => ?_) (fun c11 => ?_)
    · replace h := gif_t h c11
      refine x_sub [0, 1, 2, 3, 4, 5, 6, 7] rfl ?_
      exact hk106 _ _ _ _ _ _ _ _ _ h
    · replace h := gif_f h c11
      refine x_iload 40 7 d_M_findCurrent_40 rfl ?_
      refine x_if_eq 42 106 d_M_findCurrent_42 (by decide) (fun c12 => ?_) (fun c12 => ?_)
      · replace h := gif_t h c12
        refine x_sub [0, 1, 2, 3, 4, 5, 6, 7] rfl ?_
        exact hk106 _ _ _ _ _ _ _ _ _ h
      · replace h := gif_f h c12
        refine x_aloadn 45 0 d_M_findCurrent_45 rfl rfl ?_
        replace h := gb1_elim h; obtain ⟨v13, h14, h⟩ := h
        refine x_getR 46 h14 fl_M_13 d_M_findCurrent_46 ?_
        refine x_iload 49 8 d_M_findCurrent_49 rfl ?_
        replace h := gb1_elim h; obtain ⟨v15, h16, h⟩ := h
        refine x_iald 51 rfl h16 d_M_findCurrent_51 ?_
        refine x_aloadn 52 0 d_M_findCurrent_52 rfl rfl ?_
        replace h := gb1_elim h; obtain ⟨v17, h18, h⟩ := h
        refine x_getR 53 h18 fl_M_13 d_M_findCurrent_53 ?_
        refine x_iload 56 6 d_M_findCurrent_56 rfl ?_
        replace h := gb1_elim h; obtain ⟨v19, h20, h⟩ := h
        refine x_iald 58 rfl h20 d_M_findCurrent_58 ?_
        refine x_icmp_ne 59 93 d_M_findCurrent_59 (by decide) (fun c21 => ?_) (fun c21 => ?_)
        · replace h := gif_t h c21
          refine x_aloadn 62 0 d_M_findCurrent_62 rfl rfl ?_
          replace h := gb1_elim h; obtain ⟨v22, h23, h⟩ := h
          refine x_getR 63 h23 fl_M_17 d_M_findCurrent_63 ?_
          refine x_iload 66 8 d_M_findCurrent_66 rfl ?_
          replace h := gb1_elim h; obtain ⟨v24, h25, h⟩ := h
          refine x_iald 68 rfl h25 d_M_findCurrent_68 ?_
          refine x_aloadn 69 0 d_M_findCurrent_69 rfl rfl ?_
          replace h := gb1_elim h; obtain ⟨v26, h27, h⟩ := h
          refine x_getR 70 h27 fl_M_17 d_M_findCurrent_70 ?_
          refine x_iload 73 6 d_M_findCurrent_73 rfl ?_
          replace h := gb1_elim h; obtain ⟨v28, h29, h⟩ := h
          refine x_iald 75 rfl h29 d_M_findCurrent_75 ?_
          refine x_icmp_le 76 93 d_M_findCurrent_76 (by decide) (fun c30 => ?_) (fun c30 => ?_)
          · replace h := gif_t h c30
            refine x_iconst 93 d_M_findCurrent_93 (v := (1 : Int32)) (by decide +kernel) ?_
            refine x_goto 94 98 d_M_findCurrent_94 (by decide) ?_
            refine x_istore 98 (lv' := [(7, .inl (1 : Int32)), (0, .inr (.inr p0)), (1, .inl p1), (2, .inl p2), (3, .inl p3), (4, .inl p4), (5, .inl p5), (6, .inl p6), (8, .inl p8)]) d_M_findCurrent_98 (by decide) rfl ?_
            replace h := gLet_elim h; obtain ⟨x31, ex31, h⟩ := h
            refine x_iinc 100 8 (v := x31) (lv' := [(8, .inl x31), (7, .inl (1 : Int32)), (0, .inr (.inr p0)), (1, .inl p1), (2, .inl p2), (3, .inl p3), (4, .inl p4), (5, .inl p5), (6, .inl p6)]) d_M_findCurrent_100 rfl (by rw [ex31]; rfl) (by decide) rfl ?_
            refine x_goto 103 31 d_M_findCurrent_103 (by decide) ?_
            refine x_sub [2, 3, 4, 5, 6, 7, 8, 1, 0] rfl ?_
            exact ih _ _ _ _ _ _ _ _ _ _ h
          · replace h := gif_f h c30
            refine x_aloadn 79 0 d_M_findCurrent_79 rfl rfl ?_
            refine x_iloadn 80 1 d_M_findCurrent_80 rfl rfl ?_
            refine x_iload 81 8 d_M_findCurrent_81 rfl ?_
            refine x_iloadn 83 2 d_M_findCurrent_83 rfl rfl ?_
            refine x_iloadn 84 3 d_M_findCurrent_84 rfl rfl ?_
            refine x_iload 85 4 d_M_findCurrent_85 rfl ?_
            replace h := gb1_elim h; obtain ⟨b35, h36, h⟩ := h
            replace h := gb2_elim h; obtain ⟨v32, mm33, h34, h⟩ := h
            refine x_callV 87 5 (as := [.inl p1, .inl p8, .inl p2, .inl p3, .inl p4]) (st' := []) (rs := [.inl v32]) (k_M_isOf h34) rfl cf_M_116 ⟨rfl, by decide +kernel, by decide, by decide, Nat.le_of_ble_eq_true rfl⟩ h36 rfl d_M_findCurrent_87 ?_
            refine x_if_ne 90 97 d_M_findCurrent_90 (by decide) (fun c37 => ?_) (fun c37 => ?_)
            · replace h := gif_t h c37
              refine x_iconst 93 d_M_findCurrent_93 (v := (1 : Int32)) (by decide +kernel) ?_
              refine x_goto 94 98 d_M_findCurrent_94 (by decide) ?_
              refine x_istore 98 (lv' := [(7, .inl (1 : Int32)), (0, .inr (.inr p0)), (1, .inl p1), (2, .inl p2), (3, .inl p3), (4, .inl p4), (5, .inl p5), (6, .inl p6), (8, .inl p8)]) d_M_findCurrent_98 (by decide) rfl ?_
              replace h := gLet_elim h; obtain ⟨x38, ex38, h⟩ := h
              refine x_iinc 100 8 (v := x38) (lv' := [(8, .inl x38), (7, .inl (1 : Int32)), (0, .inr (.inr p0)), (1, .inl p1), (2, .inl p2), (3, .inl p3), (4, .inl p4), (5, .inl p5), (6, .inl p6)]) d_M_findCurrent_100 rfl (by rw [ex38]; rfl) (by decide) rfl ?_
              refine x_goto 103 31 d_M_findCurrent_103 (by decide) ?_
              refine x_sub [2, 3, 4, 5, 6, 7, 8, 1, 0] rfl ?_
              exact ih _ _ _ _ _ _ _ _ _ _ h
            · replace h := gif_f h c37
              refine x_iconst 97 d_M_findCurrent_97 (v := (0 : Int32)) (by decide +kernel) ?_
              refine x_istore 98 (lv' := [(7, .inl (0 : Int32)), (0, .inr (.inr p0)), (1, .inl p1), (2, .inl p2), (3, .inl p3), (4, .inl p4), (5, .inl p5), (6, .inl p6), (8, .inl p8)]) d_M_findCurrent_98 (by decide) rfl ?_
              replace h := gLet_elim h; obtain ⟨x39, ex39, h⟩ := h
              refine x_iinc 100 8 (v := x39) (lv' := [(8, .inl x39), (7, .inl (0 : Int32)), (0, .inr (.inr p0)), (1, .inl p1), (2, .inl p2), (3, .inl p3), (4, .inl p4), (5, .inl p5), (6, .inl p6)]) d_M_findCurrent_100 rfl (by rw [ex39]; rfl) (by decide) rfl ?_
              refine x_goto 103 31 d_M_findCurrent_103 (by decide) ?_
              refine x_sub [2, 3, 4, 5, 6, 7, 8, 1, 0] rfl ?_
              exact ih _ _ _ _ _ _ _ _ _ _ h
        · replace h := gif_f h c21
          refine x_iconst 93 d_M_findCurrent_93 (v := (1 : Int32)) (by decide +kernel) ?_
          refine x_goto 94 98 d_M_findCurrent_94 (by decide) ?_
          refine x_istore 98 (lv' := [(7, .inl (1 : Int32)), (0, .inr (.inr p0)), (1, .inl p1), (2, .inl p2), (3, .inl p3), (4, .inl p4), (5, .inl p5), (6, .inl p6), (8, .inl p8)]) d_M_findCurrent_98 (by decide) rfl ?_
          replace h := gLet_elim h; obtain ⟨x40, ex40, h⟩ := h
          refine x_iinc 100 8 (v := x40) (lv' := [(8, .inl x40), (7, .inl (1 : Int32)), (0, .inr (.inr p0)), (1, .inl p1), (2, .inl p2), (3, .inl p3), (4, .inl p4), (5, .inl p5), (6, .inl p6)]) d_M_findCurrent_100 rfl (by rw [ex40]; rfl) (by decide) rfl ?_
          refine x_goto 103 31 d_M_findCurrent_103 (by decide) ?_
          refine x_sub [2, 3, 4, 5, 6, 7, 8, 1, 0] rfl ?_
          exact ih _ _ _ _ _ _ _ _ _ _ h
def L_M_findCurrent_6 (k136 : Int32 → gM → Option (Int32 × gM)) : Nat → Option Nat → Int32 → Int32 → Int32 → Int32 → Int32 → Int32 → gM → Option (Int32 × gM)
  | 0, _, _, _, _, _, _, _, _ => none
  | f + 1, p0, p1, p2, p3, p4, p5, p6, mm =>
    gb1 (gfI 10 2 p0 mm) fun v1 =>
    if v1 ≤ p6 then (
      k136 p5 mm)
    else (
      gb1 (grc 10 p0 mm) fun b7 =>
      gb2 (F_M_isOf b7 p1 p6 p2 p3 p4 mm) fun v4 mm5 =>
      L_M_findCurrent_31 (fun p0 p1 p2 p3 p4 p5 p6 p7 mm =>
        gb1 (gfR 10 26 p0 mm) fun v41 =>
        gIf (p7 = 0 ∨ p7 = 1) (
        gb1 (gsI 2 v41 p6 p7 mm) fun mm43 =>
        if p7 = 0 then (
          gLet (p5 + (0 : Int32)) fun x47 =>
          gLet (p6 + 1) fun x48 =>
          L_M_findCurrent_6 k136 f p0 p1 p2 p3 p4 x47 x48 mm43)
        else (
          gLet (p5 + (1 : Int32)) fun x49 =>
          gLet (p6 + 1) fun x50 =>
          L_M_findCurrent_6 k136 f p0 p1 p2 p3 p4 x49 x50 mm43))) gF p0 p1 p2 p3 p4 p5 p6 v4 (0 : Int32) mm5)
set_option maxHeartbeats 4000000 in
set_option maxRecDepth 100000 in
theorem wL_M_findCurrent_6 {l : Launch} {E : gD} {n0 s0 : Nat} {r : Int32} {res : gM} {k136 : Int32 → gM → Option (Int32 × gM)} (hk136 : ∀ (p5 : Int32) (mm : gM), k136 p5 mm = some (r, res) → xX l E Y_M_findCurrent n0 s0 (some (.int r)) res 136 [(5, .inl p5)] [] mm) : ∀ (f : Nat) (p0 : Option Nat) (p1 : Int32) (p2 : Int32) (p3 : Int32) (p4 : Int32) (p5 : Int32) (p6 : Int32) (mm : gM), L_M_findCurrent_6 k136 f p0 p1 p2 p3 p4 p5 p6 mm = some (r, res) → xX l E Y_M_findCurrent n0 s0 (some (.int r)) res 6 [(0, .inr (.inr p0)), (1, .inl p1), (2, .inl p2), (3, .inl p3), (4, .inl p4), (5, .inl p5), (6, .inl p6)] [] mm := by
  intro f
  induction f with
  | zero =>
    intro p0 p1 p2 p3 p4 p5 p6 mm h
    rw [L_M_findCurrent_6] at h
    cases h
  | succ f ih =>
    intro p0 p1 p2 p3 p4 p5 p6 mm h
    rw [L_M_findCurrent_6] at h
    refine x_iload 6 6 d_M_findCurrent_6 rfl ?_
    refine x_aloadn 8 0 d_M_findCurrent_8 rfl rfl ?_
    replace h := gb1_elim h; obtain ⟨v1, h2, h⟩ := h
    refine x_getI 9 h2 fl_M_89 d_M_findCurrent_9 ?_
    refine x_icmp_ge 12 136 d_M_findCurrent_12 (by decide) (fun c3 => ?_) (fun c3 => ?_)
    · replace h := gif_t h c3
      refine x_sub [5] rfl ?_
      exact hk136 _ _ h
    · replace h := gif_f h c3
      refine x_aloadn 15 0 d_M_findCurrent_15 rfl rfl ?_
      refine x_iloadn 16 1 d_M_findCurrent_16 rfl rfl ?_
      refine x_iload 17 6 d_M_findCurrent_17 rfl ?_
      refine x_iloadn 19 2 d_M_findCurrent_19 rfl rfl ?_
      refine x_iloadn 20 3 d_M_findCurrent_20 rfl rfl ?_
      refine x_iload 21 4 d_M_findCurrent_21 rfl ?_
      replace h := gb1_elim h; obtain ⟨b7, h8, h⟩ := h
      replace h := gb2_elim h; obtain ⟨v4, mm5, h6, h⟩ := h
      refine x_callV 23 5 (as := [.inl p1, .inl p6, .inl p2, .inl p3, .inl p4]) (st' := []) (rs := [.inl v4]) (k_M_isOf h6) rfl cf_M_116 ⟨rfl, by decide +kernel, by decide, by decide, Nat.le_of_ble_eq_true rfl⟩ h8 rfl d_M_findCurrent_23 ?_
      refine x_istore 26 (lv' := [(7, .inl v4), (0, .inr (.inr p0)), (1, .inl p1), (2, .inl p2), (3, .inl p3), (4, .inl p4), (5, .inl p5), (6, .inl p6)]) d_M_findCurrent_26 (by decide) rfl ?_
      refine x_iconst 28 d_M_findCurrent_28 (v := (0 : Int32)) (by decide +kernel) ?_
      refine x_istore 29 (lv' := [(8, .inl (0 : Int32)), (7, .inl v4), (0, .inr (.inr p0)), (1, .inl p1), (2, .inl p2), (3, .inl p3), (4, .inl p4), (5, .inl p5), (6, .inl p6)]) d_M_findCurrent_29 (by decide) rfl ?_
      refine x_sub [2, 3, 4, 5, 6, 7, 8, 1, 0] rfl ?_
      refine wL_M_findCurrent_31 ?_ gF _ _ _ _ _ _ _ _ _ _ h
      · intro p0 p1 p2 p3 p4 p5 p6 p7 mm h
        refine x_aloadn 106 0 d_M_findCurrent_106 rfl rfl ?_
        replace h := gb1_elim h; obtain ⟨v41, h42, h⟩ := h
        refine x_getR 107 h42 fl_M_79 d_M_findCurrent_107 ?_
        refine x_iload 110 6 d_M_findCurrent_110 rfl ?_
        refine x_iload 112 7 d_M_findCurrent_112 rfl ?_
        replace h := gIf_elim h; obtain ⟨c45, h⟩ := h
        replace h := gb1_elim h; obtain ⟨mm43, h44, h⟩ := h
        refine x_zast 114 c45 (by decide) rfl h44 d_M_findCurrent_114 ?_
        refine x_iload 115 5 d_M_findCurrent_115 rfl ?_
        refine x_iload 117 7 d_M_findCurrent_117 rfl ?_
        refine x_if_eq 119 126 d_M_findCurrent_119 (by decide) (fun c46 => ?_) (fun c46 => ?_)
        · replace h := gif_t h c46
          refine x_iconst 126 d_M_findCurrent_126 (v := (0 : Int32)) (by decide +kernel) ?_
          refine x_iadd 127 d_M_findCurrent_127 ?_
          replace h := gLet_elim h; obtain ⟨x47, ex47, h⟩ := h
          refine x_topi ex47 ?_
          refine x_istore 128 (lv' := [(5, .inl x47), (0, .inr (.inr p0)), (1, .inl p1), (2, .inl p2), (3, .inl p3), (4, .inl p4), (6, .inl p6), (7, .inl p7)]) d_M_findCurrent_128 (by decide) rfl ?_
          replace h := gLet_elim h; obtain ⟨x48, ex48, h⟩ := h
          refine x_iinc 130 6 (v := x48) (lv' := [(6, .inl x48), (5, .inl x47), (0, .inr (.inr p0)), (1, .inl p1), (2, .inl p2), (3, .inl p3), (4, .inl p4), (7, .inl p7)]) d_M_findCurrent_130 rfl (by rw [ex48]; rfl) (by decide) rfl ?_
          refine x_goto 133 6 d_M_findCurrent_133 (by decide) ?_
          refine x_sub [2, 3, 4, 5, 6, 1, 0] rfl ?_
          exact ih _ _ _ _ _ _ _ _ h
        · replace h := gif_f h c46
          refine x_iconst 122 d_M_findCurrent_122 (v := (1 : Int32)) (by decide +kernel) ?_
          refine x_goto 123 127 d_M_findCurrent_123 (by decide) ?_
          refine x_iadd 127 d_M_findCurrent_127 ?_
          replace h := gLet_elim h; obtain ⟨x49, ex49, h⟩ := h
          refine x_topi ex49 ?_
          refine x_istore 128 (lv' := [(5, .inl x49), (0, .inr (.inr p0)), (1, .inl p1), (2, .inl p2), (3, .inl p3), (4, .inl p4), (6, .inl p6), (7, .inl p7)]) d_M_findCurrent_128 (by decide) rfl ?_
          replace h := gLet_elim h; obtain ⟨x50, ex50, h⟩ := h
          refine x_iinc 130 6 (v := x50) (lv' := [(6, .inl x50), (5, .inl x49), (0, .inr (.inr p0)), (1, .inl p1), (2, .inl p2), (3, .inl p3), (4, .inl p4), (7, .inl p7)]) d_M_findCurrent_130 rfl (by rw [ex50]; rfl) (by decide) rfl ?_
          refine x_goto 133 6 d_M_findCurrent_133 (by decide) ?_
          refine x_sub [2, 3, 4, 5, 6, 1, 0] rfl ?_
          exact ih _ _ _ _ _ _ _ _ h
def F_M_findCurrent (b : Nat) (a0 : Int32) (a1 : Int32) (a2 : Int32) (a3 : Int32) (mm : gM) : Option (Int32 × gM) :=
  L_M_findCurrent_6 (fun p5 mm =>
    some (p5, mm)) gF (some b) a0 a1 a2 a3 (0 : Int32) (0 : Int32) mm
set_option maxHeartbeats 8000000 in
set_option maxRecDepth 100000 in
theorem w_M_findCurrent {l : Launch} {E : gD} {n0 s0 : Nat} {b : Nat} {a0 : Int32} {a1 : Int32} {a2 : Int32} {a3 : Int32} {r : Int32} {mm res : gM} (h : F_M_findCurrent b a0 a1 a2 a3 mm = some (r, res)) : xX l E Y_M_findCurrent n0 s0 (some (.int r)) res 0 [(0, .inr (.inr (some b))), (1, .inl a0), (2, .inl a1), (3, .inl a2), (4, .inl a3)] [] mm := by
  unfold F_M_findCurrent at h
  refine x_iconst 0 d_M_findCurrent_0 (v := (0 : Int32)) (by decide +kernel) ?_
  refine x_istore 1 (lv' := [(5, .inl (0 : Int32)), (0, .inr (.inr (some b))), (1, .inl a0), (2, .inl a1), (3, .inl a2), (4, .inl a3)]) d_M_findCurrent_1 (by decide) rfl ?_
  refine x_iconst 3 d_M_findCurrent_3 (v := (0 : Int32)) (by decide +kernel) ?_
  refine x_istore 4 (lv' := [(6, .inl (0 : Int32)), (5, .inl (0 : Int32)), (0, .inr (.inr (some b))), (1, .inl a0), (2, .inl a1), (3, .inl a2), (4, .inl a3)]) d_M_findCurrent_4 (by decide) rfl ?_
  refine x_sub [2, 3, 4, 5, 6, 1, 0] rfl ?_
  refine wL_M_findCurrent_6 ?_ gF _ _ _ _ _ _ _ _ h
  · intro p5 mm h
    refine x_iload 136 0 d_M_findCurrent_136 rfl ?_
    cases h
    exact x_ireturn 138 rfl d_M_findCurrent_138
theorem k_M_findCurrent {b : Nat} {a0 : Int32} {a1 : Int32} {a2 : Int32} {a3 : Int32} {r : Int32} {mm res : gM} (h : F_M_findCurrent b a0 a1 a2 a3 mm = some (r, res)) : ∀ (l : Launch) (E : gD), gLe mm res ∧ gMet l E Y_M_findCurrent y_M_findCurrent [.inr (.inr (some b)), .inl a0, .inl a1, .inl a2, .inl a3] (some (.int r)) mm res :=
  fun l E => ⟨(w_M_findCurrent (l := l) (E := E) (n0 := 0) (s0 := 0) h).1, x_met (by decide +kernel) rfl rfl rfl (Nat.le_of_ble_eq_true rfl) (w_M_findCurrent h)⟩
theorem d_M_counts_0 : decode b_M_counts 0 = .ok (.aload_n 0, 1) := by decide +kernel
theorem d_M_counts_1 : decode b_M_counts 1 = .ok (.getfield 36, 3) := by decide +kernel
theorem d_M_counts_4 : decode b_M_counts 4 = .ok (.bipush 40, 2) := by decide +kernel
theorem d_M_counts_6 : decode b_M_counts 6 = .ok (.iload_n 1, 1) := by decide +kernel
theorem d_M_counts_7 : decode b_M_counts 7 = .ok (.imul, 1) := by decide +kernel
theorem d_M_counts_8 : decode b_M_counts 8 = .ok (.iload_n 2, 1) := by decide +kernel
theorem d_M_counts_9 : decode b_M_counts 9 = .ok (.iadd, 1) := by decide +kernel
theorem d_M_counts_10 : decode b_M_counts 10 = .ok (.baload, 1) := by decide +kernel
theorem d_M_counts_11 : decode b_M_counts 11 = .ok (.ifCond .eq 28, 3) := by decide +kernel
theorem d_M_counts_14 : decode b_M_counts 14 = .ok (.aload_n 0, 1) := by decide +kernel
theorem d_M_counts_15 : decode b_M_counts 15 = .ok (.getfield 42, 3) := by decide +kernel
theorem d_M_counts_18 : decode b_M_counts 18 = .ok (.iload_n 2, 1) := by decide +kernel
theorem d_M_counts_19 : decode b_M_counts 19 = .ok (.iaload, 1) := by decide +kernel
theorem d_M_counts_20 : decode b_M_counts 20 = .ok (.iload_n 3, 1) := by decide +kernel
theorem d_M_counts_21 : decode b_M_counts 21 = .ok (.if_icmp .ne 18, 3) := by decide +kernel
theorem d_M_counts_24 : decode b_M_counts 24 = .ok (.aload_n 0, 1) := by decide +kernel
theorem d_M_counts_25 : decode b_M_counts 25 = .ok (.getfield 45, 3) := by decide +kernel
theorem d_M_counts_28 : decode b_M_counts 28 = .ok (.iload_n 2, 1) := by decide +kernel
theorem d_M_counts_29 : decode b_M_counts 29 = .ok (.iaload, 1) := by decide +kernel
theorem d_M_counts_30 : decode b_M_counts 30 = .ok (.iload 4, 2) := by decide +kernel
theorem d_M_counts_32 : decode b_M_counts 32 = .ok (.if_icmp .ne 7, 3) := by decide +kernel
theorem d_M_counts_35 : decode b_M_counts 35 = .ok (.iconst 1, 1) := by decide +kernel
theorem d_M_counts_36 : decode b_M_counts 36 = .ok (.goto 4, 3) := by decide +kernel
theorem d_M_counts_39 : decode b_M_counts 39 = .ok (.iconst 0, 1) := by decide +kernel
theorem d_M_counts_40 : decode b_M_counts 40 = .ok (.istore 5, 2) := by decide +kernel
theorem d_M_counts_42 : decode b_M_counts 42 = .ok (.iconst 0, 1) := by decide +kernel
theorem d_M_counts_43 : decode b_M_counts 43 = .ok (.istore 6, 2) := by decide +kernel
theorem d_M_counts_45 : decode b_M_counts 45 = .ok (.iload 6, 2) := by decide +kernel
theorem d_M_counts_47 : decode b_M_counts 47 = .ok (.aload_n 0, 1) := by decide +kernel
theorem d_M_counts_48 : decode b_M_counts 48 = .ok (.getfield 89, 3) := by decide +kernel
theorem d_M_counts_51 : decode b_M_counts 51 = .ok (.if_icmp .ge 44, 3) := by decide +kernel
theorem d_M_counts_54 : decode b_M_counts 54 = .ok (.iload 5, 2) := by decide +kernel
theorem d_M_counts_56 : decode b_M_counts 56 = .ok (.ifCond .eq 39, 3) := by decide +kernel
theorem d_M_counts_59 : decode b_M_counts 59 = .ok (.aload_n 0, 1) := by decide +kernel
theorem d_M_counts_60 : decode b_M_counts 60 = .ok (.getfield 51, 3) := by decide +kernel
theorem d_M_counts_63 : decode b_M_counts 63 = .ok (.sipush 200, 3) := by decide +kernel
theorem d_M_counts_66 : decode b_M_counts 66 = .ok (.iload_n 2, 1) := by decide +kernel
theorem d_M_counts_67 : decode b_M_counts 67 = .ok (.imul, 1) := by decide +kernel
theorem d_M_counts_68 : decode b_M_counts 68 = .ok (.iload 6, 2) := by decide +kernel
theorem d_M_counts_70 : decode b_M_counts 70 = .ok (.iadd, 1) := by decide +kernel
theorem d_M_counts_71 : decode b_M_counts 71 = .ok (.baload, 1) := by decide +kernel
theorem d_M_counts_72 : decode b_M_counts 72 = .ok (.aload_n 0, 1) := by decide +kernel
theorem d_M_counts_73 : decode b_M_counts 73 = .ok (.getfield 79, 3) := by decide +kernel
theorem d_M_counts_76 : decode b_M_counts 76 = .ok (.iload 6, 2) := by decide +kernel
theorem d_M_counts_78 : decode b_M_counts 78 = .ok (.baload, 1) := by decide +kernel
theorem d_M_counts_79 : decode b_M_counts 79 = .ok (.if_icmp .ne 7, 3) := by decide +kernel
theorem d_M_counts_82 : decode b_M_counts 82 = .ok (.iconst 1, 1) := by decide +kernel
theorem d_M_counts_83 : decode b_M_counts 83 = .ok (.goto 4, 3) := by decide +kernel
theorem d_M_counts_86 : decode b_M_counts 86 = .ok (.iconst 0, 1) := by decide +kernel
theorem d_M_counts_87 : decode b_M_counts 87 = .ok (.istore 5, 2) := by decide +kernel
theorem d_M_counts_89 : decode b_M_counts 89 = .ok (.iinc 6 1, 3) := by decide +kernel
theorem d_M_counts_92 : decode b_M_counts 92 = .ok (.goto (-47), 3) := by decide +kernel
theorem d_M_counts_95 : decode b_M_counts 95 = .ok (.iload 5, 2) := by decide +kernel
theorem d_M_counts_97 : decode b_M_counts 97 = .ok (.ireturn, 1) := by decide +kernel
def L_M_counts_45 (k95 : Int32 → gM → Option (Int32 × gM)) : Nat → Option Nat → Int32 → Int32 → Int32 → gM → Option (Int32 × gM)
  | 0, _, _, _, _, _ => none
  | f + 1, p0, p2, p5, p6, mm =>
    gb1 (gfI 10 2 p0 mm) fun v5 =>
    if v5 ≤ p6 then (
      k95 p5 mm)
    else (
      if p5 = 0 then (
        k95 p5 mm)
      else (
        gb1 (gfR 10 17 p0 mm) fun v9 =>
        gb1 (gaI 2 v9 (((200 : Int32) * p2) + p6) mm) fun v11 =>
        gb1 (gfR 10 26 p0 mm) fun v13 =>
        gb1 (gaI 2 v13 p6 mm) fun v15 =>
        if v11 = v15 then (
          gLet (p6 + 1) fun x18 =>
          L_M_counts_45 k95 f p0 p2 (1 : Int32) x18 mm)
        else (
          gLet (p6 + 1) fun x19 =>
          L_M_counts_45 k95 f p0 p2 (0 : Int32) x19 mm)))
set_option maxHeartbeats 4000000 in
set_option maxRecDepth 100000 in
theorem wL_M_counts_45 {l : Launch} {E : gD} {n0 s0 : Nat} {r : Int32} {res : gM} {k95 : Int32 → gM → Option (Int32 × gM)} (hk95 : ∀ (p5 : Int32) (mm : gM), k95 p5 mm = some (r, res) → xX l E Y_M_counts n0 s0 (some (.int r)) res 95 [(5, .inl p5)] [] mm) : ∀ (f : Nat) (p0 : Option Nat) (p2 : Int32) (p5 : Int32) (p6 : Int32) (mm : gM), L_M_counts_45 k95 f p0 p2 p5 p6 mm = some (r, res) → xX l E Y_M_counts n0 s0 (some (.int r)) res 45 [(0, .inr (.inr p0)), (2, .inl p2), (5, .inl p5), (6, .inl p6)] [] mm := by
  intro f
  induction f with
  | zero =>
    intro p0 p2 p5 p6 mm h
    rw [L_M_counts_45] at h
    cases h
  | succ f ih =>
    intro p0 p2 p5 p6 mm h
    rw [L_M_counts_45] at h
    refine x_iload 45 3 d_M_counts_45 rfl ?_
    refine x_aloadn 47 0 d_M_counts_47 rfl rfl ?_
    replace h := gb1_elim h; obtain ⟨v5, h6, h⟩ := h
    refine x_getI 48 h6 fl_M_89 d_M_counts_48 ?_
    refine x_icmp_ge 51 95 d_M_counts_51 (by decide) (fun c7 => ?_) (fun c7 => ?_)
    · replace h := gif_t h c7
      refine x_sub [2] rfl ?_
      exact hk95 _ _ h
    · replace h := gif_f h c7
      refine x_iload 54 2 d_M_counts_54 rfl ?_
      refine x_if_eq 56 95 d_M_counts_56 (by decide) (fun c8 => ?_) (fun c8 => ?_)
      · replace h := gif_t h c8
        refine x_sub [2] rfl ?_
        exact hk95 _ _ h
      · replace h := gif_f h c8
        refine x_aloadn 59 0 d_M_counts_59 rfl rfl ?_
        replace h := gb1_elim h; obtain ⟨v9, h10, h⟩ := h
        refine x_getR 60 h10 fl_M_51 d_M_counts_60 ?_
        refine x_sipush 63 d_M_counts_63 (v := (200 : Int32)) (by decide +kernel) ?_
        refine x_iloadn 66 1 d_M_counts_66 rfl rfl ?_
        refine x_imul 67 d_M_counts_67 ?_
        refine x_iload 68 3 d_M_counts_68 rfl ?_
        refine x_iadd 70 d_M_counts_70 ?_
        replace h := gb1_elim h; obtain ⟨v11, h12, h⟩ := h
        refine x_zald 71 rfl h12 d_M_counts_71 ?_
        refine x_aloadn 72 0 d_M_counts_72 rfl rfl ?_
        replace h := gb1_elim h; obtain ⟨v13, h14, h⟩ := h
        refine x_getR 73 h14 fl_M_79 d_M_counts_73 ?_
        refine x_iload 76 3 d_M_counts_76 rfl ?_
        replace h := gb1_elim h; obtain ⟨v15, h16, h⟩ := h
        refine x_zald 78 rfl h16 d_M_counts_78 ?_
        refine x_icmp_ne 79 86 d_M_counts_79 (by decide) (fun c17 => ?_) (fun c17 => ?_)
        · replace h := gif_t h c17
          refine x_iconst 82 d_M_counts_82 (v := (1 : Int32)) (by decide +kernel) ?_
          refine x_goto 83 87 d_M_counts_83 (by decide) ?_
          refine x_istore 87 (lv' := [(5, .inl (1 : Int32)), (0, .inr (.inr p0)), (2, .inl p2), (6, .inl p6)]) d_M_counts_87 (by decide) rfl ?_
          replace h := gLet_elim h; obtain ⟨x18, ex18, h⟩ := h
          refine x_iinc 89 3 (v := x18) (lv' := [(6, .inl x18), (5, .inl (1 : Int32)), (0, .inr (.inr p0)), (2, .inl p2)]) d_M_counts_89 rfl (by rw [ex18]; rfl) (by decide) rfl ?_
          refine x_goto 92 45 d_M_counts_92 (by decide) ?_
          refine x_sub [2, 3, 1, 0] rfl ?_
          exact ih _ _ _ _ _ h
        · replace h := gif_f h c17
          refine x_iconst 86 d_M_counts_86 (v := (0 : Int32)) (by decide +kernel) ?_
          refine x_istore 87 (lv' := [(5, .inl (0 : Int32)), (0, .inr (.inr p0)), (2, .inl p2), (6, .inl p6)]) d_M_counts_87 (by decide) rfl ?_
          replace h := gLet_elim h; obtain ⟨x19, ex19, h⟩ := h
          refine x_iinc 89 3 (v := x19) (lv' := [(6, .inl x19), (5, .inl (0 : Int32)), (0, .inr (.inr p0)), (2, .inl p2)]) d_M_counts_89 rfl (by rw [ex19]; rfl) (by decide) rfl ?_
          refine x_goto 92 45 d_M_counts_92 (by decide) ?_
          refine x_sub [2, 3, 1, 0] rfl ?_
          exact ih _ _ _ _ _ h
def F_M_counts (b : Nat) (a0 : Int32) (a1 : Int32) (a2 : Int32) (a3 : Int32) (mm : gM) : Option (Int32 × gM) :=
  gb1 (gfR 10 11 (some b) mm) fun v1 =>
  gb1 (gaI 2 v1 (((40 : Int32) * a0) + a1) mm) fun v3 =>
  gLet (fun (p0 : Option Nat) (p2 : Int32) (q0 : Int32) (mm : gM) =>
    L_M_counts_45 (fun p5 mm =>
      gIf (p5 = 0 ∨ p5 = 1) (some (p5, mm))) gF p0 p2 q0 (0 : Int32) mm) fun J40 =>
  gLet (fun (p0 : Option Nat) (p2 : Int32) (mm : gM) =>
    J40 p0 p2 (0 : Int32) mm) fun J39 =>
  if v3 = 0 then (
    J39 (some b) a1 mm)
  else (
    gb1 (gfR 10 14 (some b) mm) fun v22 =>
    gb1 (gaI 0 v22 a1 mm) fun v24 =>
    if v24 = a2 then (
      gb1 (gfR 10 15 (some b) mm) fun v27 =>
      gb1 (gaI 0 v27 a1 mm) fun v29 =>
      if v29 = a3 then (
        J40 (some b) a1 (1 : Int32) mm)
      else (
        J39 (some b) a1 mm))
    else (
      J39 (some b) a1 mm))
set_option maxHeartbeats 8000000 in
set_option maxRecDepth 100000 in
theorem w_M_counts {l : Launch} {E : gD} {n0 s0 : Nat} {b : Nat} {a0 : Int32} {a1 : Int32} {a2 : Int32} {a3 : Int32} {r : Int32} {mm res : gM} (h : F_M_counts b a0 a1 a2 a3 mm = some (r, res)) : xX l E Y_M_counts n0 s0 (some (.int r)) res 0 [(0, .inr (.inr (some b))), (1, .inl a0), (2, .inl a1), (3, .inl a2), (4, .inl a3)] [] mm := by
  unfold F_M_counts at h
  refine x_aloadn 0 0 d_M_counts_0 rfl rfl ?_
  replace h := gb1_elim h; obtain ⟨v1, h2, h⟩ := h
  refine x_getR 1 h2 fl_M_36 d_M_counts_1 ?_
  refine x_bipush 4 d_M_counts_4 (v := (40 : Int32)) (by decide +kernel) ?_
  refine x_iloadn 6 1 d_M_counts_6 rfl rfl ?_
  refine x_imul 7 d_M_counts_7 ?_
  refine x_iloadn 8 2 d_M_counts_8 rfl rfl ?_
  refine x_iadd 9 d_M_counts_9 ?_
  replace h := gb1_elim h; obtain ⟨v3, h4, h⟩ := h
  refine x_zald 10 rfl h4 d_M_counts_10 ?_
  replace h := gLet_elim h; obtain ⟨J40, hJ40, h⟩ := h
  have kJ40 : ∀ (p0 : Option Nat) (p2 : Int32) (q0 : Int32) (mm : gM), J40 p0 p2 q0 mm = some (r, res) → xX l E Y_M_counts n0 s0 (some (.int r)) res 40 [(0, .inr (.inr p0)), (2, .inl p2)] [.inl q0] mm := by
    intro p0 p2 q0 mm h
    rw [hJ40] at h
    refine x_istore 40 (lv' := [(5, .inl q0), (0, .inr (.inr p0)), (2, .inl p2)]) d_M_counts_40 (by decide) rfl ?_
    refine x_iconst 42 d_M_counts_42 (v := (0 : Int32)) (by decide +kernel) ?_
    refine x_istore 43 (lv' := [(6, .inl (0 : Int32)), (5, .inl q0), (0, .inr (.inr p0)), (2, .inl p2)]) d_M_counts_43 (by decide) rfl ?_
    refine x_sub [2, 3, 1, 0] rfl ?_
    refine wL_M_counts_45 ?_ gF _ _ _ _ _ h
    · intro p5 mm h
      refine x_iload 95 0 d_M_counts_95 rfl ?_
      replace h := gIf_elim h; obtain ⟨c20, h⟩ := h
      cases h
      exact x_zreturn 97 c20 rfl d_M_counts_97
  replace h := gLet_elim h; obtain ⟨J39, hJ39, h⟩ := h
  have kJ39 : ∀ (p0 : Option Nat) (p2 : Int32) (mm : gM), J39 p0 p2 mm = some (r, res) → xX l E Y_M_counts n0 s0 (some (.int r)) res 39 [(0, .inr (.inr p0)), (2, .inl p2)] [] mm := by
    intro p0 p2 mm h
    rw [hJ39] at h
    refine x_iconst 39 d_M_counts_39 (v := (0 : Int32)) (by decide +kernel) ?_
    exact kJ40 _ _ _ _ h
  refine x_if_eq 11 39 d_M_counts_11 (by decide) (fun c21 => ?_) (fun c21 => ?_)
  · replace h := gif_t h c21
    refine x_sub [0, 2] rfl ?_
    exact kJ39 _ _ _ h
  · replace h := gif_f h c21
    refine x_aloadn 14 0 d_M_counts_14 rfl rfl ?_
    replace h := gb1_elim h; obtain ⟨v22, h23, h⟩ := h
    refine x_getR 15 h23 fl_M_42 d_M_counts_15 ?_
    refine x_iloadn 18 2 d_M_counts_18 rfl rfl ?_
    replace h := gb1_elim h; obtain ⟨v24, h25, h⟩ := h
    refine x_iald 19 rfl h25 d_M_counts_19 ?_
    refine x_iloadn 20 3 d_M_counts_20 rfl rfl ?_
    refine x_icmp_ne 21 39 d_M_counts_21 (by decide) (fun c26 => ?_) (fun c26 => ?_)
    · replace h := gif_t h c26
      refine x_aloadn 24 0 d_M_counts_24 rfl rfl ?_
      replace h := gb1_elim h; obtain ⟨v27, h28, h⟩ := h
      refine x_getR 25 h28 fl_M_45 d_M_counts_25 ?_
      refine x_iloadn 28 2 d_M_counts_28 rfl rfl ?_
      replace h := gb1_elim h; obtain ⟨v29, h30, h⟩ := h
      refine x_iald 29 rfl h30 d_M_counts_29 ?_
      refine x_iload 30 4 d_M_counts_30 rfl ?_
      refine x_icmp_ne 32 39 d_M_counts_32 (by decide) (fun c31 => ?_) (fun c31 => ?_)
      · replace h := gif_t h c31
        refine x_iconst 35 d_M_counts_35 (v := (1 : Int32)) (by decide +kernel) ?_
        refine x_goto 36 40 d_M_counts_36 (by decide) ?_
        refine x_sub [0, 2] rfl ?_
        exact kJ40 _ _ _ _ h
      · replace h := gif_f h c31
        refine x_sub [0, 2] rfl ?_
        exact kJ39 _ _ _ h
    · replace h := gif_f h c26
      refine x_sub [0, 2] rfl ?_
      exact kJ39 _ _ _ h
theorem k_M_counts {b : Nat} {a0 : Int32} {a1 : Int32} {a2 : Int32} {a3 : Int32} {r : Int32} {mm res : gM} (h : F_M_counts b a0 a1 a2 a3 mm = some (r, res)) : ∀ (l : Launch) (E : gD), gLe mm res ∧ gMet l E Y_M_counts y_M_counts [.inr (.inr (some b)), .inl a0, .inl a1, .inl a2, .inl a3] (some (.int r)) mm res :=
  fun l E => ⟨(w_M_counts (l := l) (E := E) (n0 := 0) (s0 := 0) h).1, x_met (by decide +kernel) rfl rfl rfl (Nat.le_of_ble_eq_true rfl) (w_M_counts h)⟩
