-- M_equal S_known M_known S_cellInConflict
theorem d_M_equal_0 : decode b_M_equal 0 = .ok (.aload_n 0, 1) := by decide +kernel
theorem d_M_equal_1 : decode b_M_equal 1 = .ok (.iload_n 1, 1) := by decide +kernel
theorem d_M_equal_2 : decode b_M_equal 2 = .ok (.invokevirtual 133, 3) := by decide +kernel
theorem d_M_equal_5 : decode b_M_equal 5 = .ok (.ifCond .eq 15, 3) := by decide +kernel
theorem d_M_equal_8 : decode b_M_equal 8 = .ok (.aload_n 0, 1) := by decide +kernel
theorem d_M_equal_9 : decode b_M_equal 9 = .ok (.iload_n 2, 1) := by decide +kernel
theorem d_M_equal_10 : decode b_M_equal 10 = .ok (.invokevirtual 133, 3) := by decide +kernel
theorem d_M_equal_13 : decode b_M_equal 13 = .ok (.ifCond .eq 7, 3) := by decide +kernel
theorem d_M_equal_16 : decode b_M_equal 16 = .ok (.iconst 1, 1) := by decide +kernel
theorem d_M_equal_17 : decode b_M_equal 17 = .ok (.goto 4, 3) := by decide +kernel
theorem d_M_equal_20 : decode b_M_equal 20 = .ok (.iconst 0, 1) := by decide +kernel
theorem d_M_equal_21 : decode b_M_equal 21 = .ok (.istore_n 3, 1) := by decide +kernel
theorem d_M_equal_22 : decode b_M_equal 22 = .ok (.iconst 0, 1) := by decide +kernel
theorem d_M_equal_23 : decode b_M_equal 23 = .ok (.istore 4, 2) := by decide +kernel
theorem d_M_equal_25 : decode b_M_equal 25 = .ok (.iload 4, 2) := by decide +kernel
theorem d_M_equal_27 : decode b_M_equal 27 = .ok (.sipush 200, 3) := by decide +kernel
theorem d_M_equal_30 : decode b_M_equal 30 = .ok (.if_icmp .ge 48, 3) := by decide +kernel
theorem d_M_equal_33 : decode b_M_equal 33 = .ok (.iload_n 3, 1) := by decide +kernel
theorem d_M_equal_34 : decode b_M_equal 34 = .ok (.ifCond .eq 44, 3) := by decide +kernel
theorem d_M_equal_37 : decode b_M_equal 37 = .ok (.aload_n 0, 1) := by decide +kernel
theorem d_M_equal_38 : decode b_M_equal 38 = .ok (.getfield 33, 3) := by decide +kernel
theorem d_M_equal_41 : decode b_M_equal 41 = .ok (.sipush 200, 3) := by decide +kernel
theorem d_M_equal_44 : decode b_M_equal 44 = .ok (.iload_n 1, 1) := by decide +kernel
theorem d_M_equal_45 : decode b_M_equal 45 = .ok (.imul, 1) := by decide +kernel
theorem d_M_equal_46 : decode b_M_equal 46 = .ok (.iload 4, 2) := by decide +kernel
theorem d_M_equal_48 : decode b_M_equal 48 = .ok (.iadd, 1) := by decide +kernel
theorem d_M_equal_49 : decode b_M_equal 49 = .ok (.baload, 1) := by decide +kernel
theorem d_M_equal_50 : decode b_M_equal 50 = .ok (.aload_n 0, 1) := by decide +kernel
theorem d_M_equal_51 : decode b_M_equal 51 = .ok (.getfield 33, 3) := by decide +kernel
theorem d_M_equal_54 : decode b_M_equal 54 = .ok (.sipush 200, 3) := by decide +kernel
theorem d_M_equal_57 : decode b_M_equal 57 = .ok (.iload_n 2, 1) := by decide +kernel
theorem d_M_equal_58 : decode b_M_equal 58 = .ok (.imul, 1) := by decide +kernel
theorem d_M_equal_59 : decode b_M_equal 59 = .ok (.iload 4, 2) := by decide +kernel
theorem d_M_equal_61 : decode b_M_equal 61 = .ok (.iadd, 1) := by decide +kernel
theorem d_M_equal_62 : decode b_M_equal 62 = .ok (.baload, 1) := by decide +kernel
theorem d_M_equal_63 : decode b_M_equal 63 = .ok (.if_icmp .ne 7, 3) := by decide +kernel
theorem d_M_equal_66 : decode b_M_equal 66 = .ok (.iconst 1, 1) := by decide +kernel
theorem d_M_equal_67 : decode b_M_equal 67 = .ok (.goto 4, 3) := by decide +kernel
theorem d_M_equal_70 : decode b_M_equal 70 = .ok (.iconst 0, 1) := by decide +kernel
theorem d_M_equal_71 : decode b_M_equal 71 = .ok (.istore_n 3, 1) := by decide +kernel
theorem d_M_equal_72 : decode b_M_equal 72 = .ok (.iinc 4 1, 3) := by decide +kernel
theorem d_M_equal_75 : decode b_M_equal 75 = .ok (.goto (-50), 3) := by decide +kernel
theorem d_M_equal_78 : decode b_M_equal 78 = .ok (.iconst 0, 1) := by decide +kernel
theorem d_M_equal_79 : decode b_M_equal 79 = .ok (.istore 4, 2) := by decide +kernel
theorem d_M_equal_81 : decode b_M_equal 81 = .ok (.iload 4, 2) := by decide +kernel
theorem d_M_equal_83 : decode b_M_equal 83 = .ok (.bipush 40, 2) := by decide +kernel
theorem d_M_equal_85 : decode b_M_equal 85 = .ok (.if_icmp .ge 46, 3) := by decide +kernel
theorem d_M_equal_88 : decode b_M_equal 88 = .ok (.iload_n 3, 1) := by decide +kernel
theorem d_M_equal_89 : decode b_M_equal 89 = .ok (.ifCond .eq 42, 3) := by decide +kernel
theorem d_M_equal_92 : decode b_M_equal 92 = .ok (.aload_n 0, 1) := by decide +kernel
theorem d_M_equal_93 : decode b_M_equal 93 = .ok (.getfield 36, 3) := by decide +kernel
theorem d_M_equal_96 : decode b_M_equal 96 = .ok (.bipush 40, 2) := by decide +kernel
theorem d_M_equal_98 : decode b_M_equal 98 = .ok (.iload_n 1, 1) := by decide +kernel
theorem d_M_equal_99 : decode b_M_equal 99 = .ok (.imul, 1) := by decide +kernel
theorem d_M_equal_100 : decode b_M_equal 100 = .ok (.iload 4, 2) := by decide +kernel
theorem d_M_equal_102 : decode b_M_equal 102 = .ok (.iadd, 1) := by decide +kernel
theorem d_M_equal_103 : decode b_M_equal 103 = .ok (.baload, 1) := by decide +kernel
theorem d_M_equal_104 : decode b_M_equal 104 = .ok (.aload_n 0, 1) := by decide +kernel
theorem d_M_equal_105 : decode b_M_equal 105 = .ok (.getfield 36, 3) := by decide +kernel
theorem d_M_equal_108 : decode b_M_equal 108 = .ok (.bipush 40, 2) := by decide +kernel
theorem d_M_equal_110 : decode b_M_equal 110 = .ok (.iload_n 2, 1) := by decide +kernel
theorem d_M_equal_111 : decode b_M_equal 111 = .ok (.imul, 1) := by decide +kernel
theorem d_M_equal_112 : decode b_M_equal 112 = .ok (.iload 4, 2) := by decide +kernel
theorem d_M_equal_114 : decode b_M_equal 114 = .ok (.iadd, 1) := by decide +kernel
theorem d_M_equal_115 : decode b_M_equal 115 = .ok (.baload, 1) := by decide +kernel
theorem d_M_equal_116 : decode b_M_equal 116 = .ok (.if_icmp .ne 7, 3) := by decide +kernel
theorem d_M_equal_119 : decode b_M_equal 119 = .ok (.iconst 1, 1) := by decide +kernel
theorem d_M_equal_120 : decode b_M_equal 120 = .ok (.goto 4, 3) := by decide +kernel
theorem d_M_equal_123 : decode b_M_equal 123 = .ok (.iconst 0, 1) := by decide +kernel
theorem d_M_equal_124 : decode b_M_equal 124 = .ok (.istore_n 3, 1) := by decide +kernel
theorem d_M_equal_125 : decode b_M_equal 125 = .ok (.iinc 4 1, 3) := by decide +kernel
theorem d_M_equal_128 : decode b_M_equal 128 = .ok (.goto (-47), 3) := by decide +kernel
theorem d_M_equal_131 : decode b_M_equal 131 = .ok (.iload_n 3, 1) := by decide +kernel
theorem d_M_equal_132 : decode b_M_equal 132 = .ok (.ireturn, 1) := by decide +kernel
def L_M_equal_25 (k78 : Option Nat → Int32 → Int32 → Int32 → gM → Option (Int32 × gM)) : Nat → Option Nat → Int32 → Int32 → Int32 → Int32 → gM → Option (Int32 × gM)
  | 0, _, _, _, _, _, _ => none
  | f + 1, p0, p1, p2, p3, p4, mm =>
    if (200 : Int32) ≤ p4 then (
      k78 p0 p1 p2 p3 mm)
    else (
      if p3 = 0 then (
        k78 p0 p1 p2 p3 mm)
      else (
        gb1 (gfR 10 10 p0 mm) fun v8 =>
        gb1 (gaI 2 v8 (((200 : Int32) * p1) + p4) mm) fun v10 =>
        gb1 (gfR 10 10 p0 mm) fun v12 =>
        gb1 (gaI 2 v12 (((200 : Int32) * p2) + p4) mm) fun v14 =>
        if v10 = v14 then (
          gLet (p4 + 1) fun x17 =>
          L_M_equal_25 k78 f p0 p1 p2 (1 : Int32) x17 mm)
        else (
          gLet (p4 + 1) fun x18 =>
          L_M_equal_25 k78 f p0 p1 p2 (0 : Int32) x18 mm)))
set_option maxHeartbeats 4000000 in
set_option maxRecDepth 100000 in
theorem wL_M_equal_25 {l : Launch} {E : gD} {n0 s0 : Nat} {r : Int32} {res : gM} {k78 : Option Nat → Int32 → Int32 → Int32 → gM → Option (Int32 × gM)} (hk78 : ∀ (p0 : Option Nat) (p1 : Int32) (p2 : Int32) (p3 : Int32) (mm : gM), k78 p0 p1 p2 p3 mm = some (r, res) → xX l E Y_M_equal n0 s0 (some (.int r)) res 78 [(0, .inr (.inr p0)), (1, .inl p1), (2, .inl p2), (3, .inl p3)] [] mm) : ∀ (f : Nat) (p0 : Option Nat) (p1 : Int32) (p2 : Int32) (p3 : Int32) (p4 : Int32) (mm : gM), L_M_equal_25 k78 f p0 p1 p2 p3 p4 mm = some (r, res) → xX l E Y_M_equal n0 s0 (some (.int r)) res 25 [(0, .inr (.inr p0)), (1, .inl p1), (2, .inl p2), (3, .inl p3), (4, .inl p4)] [] mm := by
  intro f
  induction f with
  | zero =>
    intro p0 p1 p2 p3 p4 mm h
    rw [L_M_equal_25] at h
    cases h
  | succ f ih =>
    intro p0 p1 p2 p3 p4 mm h
    rw [L_M_equal_25] at h
    refine x_iload 25 4 d_M_equal_25 rfl ?_
    refine x_sipush 27 d_M_equal_27 (v := (200 : Int32)) (by decide +kernel) ?_
    refine x_icmp_ge 30 78 d_M_equal_30 (by decide) (fun c6 => ?_) (fun c6 => ?_)
    · replace h := gif_t h c6
      refine x_sub [0, 1, 2, 3] rfl ?_
      exact hk78 _ _ _ _ _ h
    · replace h := gif_f h c6
      refine x_iloadn 33 3 d_M_equal_33 rfl rfl ?_
      refine x_if_eq 34 78 d_M_equal_34 (by decide) (fun c7 => ?_) (fun c7 => ?_)
      · replace h := gif_t h c7
        refine x_sub [0, 1, 2, 3] rfl ?_
        exact hk78 _ _ _ _ _ h
      · replace h := gif_f h c7
        refine x_aloadn 37 0 d_M_equal_37 rfl rfl ?_
        replace h := gb1_elim h; obtain ⟨v8, h9, h⟩ := h
        refine x_getR 38 h9 fl_M_33 d_M_equal_38 ?_
        refine x_sipush 41 d_M_equal_41 (v := (200 : Int32)) (by decide +kernel) ?_
        refine x_iloadn 44 1 d_M_equal_44 rfl rfl ?_
        refine x_imul 45 d_M_equal_45 ?_
        refine x_iload 46 4 d_M_equal_46 rfl ?_
        refine x_iadd 48 d_M_equal_48 ?_
        replace h := gb1_elim h; obtain ⟨v10, h11, h⟩ := h
        refine x_zald 49 rfl h11 d_M_equal_49 ?_
        refine x_aloadn 50 0 d_M_equal_50 rfl rfl ?_
        replace h := gb1_elim h; obtain ⟨v12, h13, h⟩ := h
        refine x_getR 51 h13 fl_M_33 d_M_equal_51 ?_
        refine x_sipush 54 d_M_equal_54 (v := (200 : Int32)) (by decide +kernel) ?_
        refine x_iloadn 57 2 d_M_equal_57 rfl rfl ?_
        refine x_imul 58 d_M_equal_58 ?_
        refine x_iload 59 4 d_M_equal_59 rfl ?_
        refine x_iadd 61 d_M_equal_61 ?_
        replace h := gb1_elim h; obtain ⟨v14, h15, h⟩ := h
        refine x_zald 62 rfl h15 d_M_equal_62 ?_
        refine x_icmp_ne 63 70 d_M_equal_63 (by decide) (fun c16 => ?_) (fun c16 => ?_)
        · replace h := gif_t h c16
          refine x_iconst 66 d_M_equal_66 (v := (1 : Int32)) (by decide +kernel) ?_
          refine x_goto 67 71 d_M_equal_67 (by decide) ?_
          refine x_istoren 71 (lv' := [(3, .inl (1 : Int32)), (0, .inr (.inr p0)), (1, .inl p1), (2, .inl p2), (4, .inl p4)]) d_M_equal_71 rfl (by decide) rfl ?_
          replace h := gLet_elim h; obtain ⟨x17, ex17, h⟩ := h
          refine x_iinc 72 4 (v := x17) (lv' := [(4, .inl x17), (3, .inl (1 : Int32)), (0, .inr (.inr p0)), (1, .inl p1), (2, .inl p2)]) d_M_equal_72 rfl (by rw [ex17]; rfl) (by decide) rfl ?_
          refine x_goto 75 25 d_M_equal_75 (by decide) ?_
          refine x_sub [2, 3, 4, 1, 0] rfl ?_
          exact ih _ _ _ _ _ _ h
        · replace h := gif_f h c16
          refine x_iconst 70 d_M_equal_70 (v := (0 : Int32)) (by decide +kernel) ?_
          refine x_istoren 71 (lv' := [(3, .inl (0 : Int32)), (0, .inr (.inr p0)), (1, .inl p1), (2, .inl p2), (4, .inl p4)]) d_M_equal_71 rfl (by decide) rfl ?_
          replace h := gLet_elim h; obtain ⟨x18, ex18, h⟩ := h
          refine x_iinc 72 4 (v := x18) (lv' := [(4, .inl x18), (3, .inl (0 : Int32)), (0, .inr (.inr p0)), (1, .inl p1), (2, .inl p2)]) d_M_equal_72 rfl (by rw [ex18]; rfl) (by decide) rfl ?_
          refine x_goto 75 25 d_M_equal_75 (by decide) ?_
          refine x_sub [2, 3, 4, 1, 0] rfl ?_
          exact ih _ _ _ _ _ _ h
def L_M_equal_81 (k131 : Int32 → gM → Option (Int32 × gM)) : Nat → Option Nat → Int32 → Int32 → Int32 → Int32 → gM → Option (Int32 × gM)
  | 0, _, _, _, _, _, _ => none
  | f + 1, p0, p1, p2, p3, p4, mm =>
    if (40 : Int32) ≤ p4 then (
      k131 p3 mm)
    else (
      if p3 = 0 then (
        k131 p3 mm)
      else (
        gb1 (gfR 10 11 p0 mm) fun v21 =>
        gb1 (gaI 2 v21 (((40 : Int32) * p1) + p4) mm) fun v23 =>
        gb1 (gfR 10 11 p0 mm) fun v25 =>
        gb1 (gaI 2 v25 (((40 : Int32) * p2) + p4) mm) fun v27 =>
        if v23 = v27 then (
          gLet (p4 + 1) fun x30 =>
          L_M_equal_81 k131 f p0 p1 p2 (1 : Int32) x30 mm)
        else (
          gLet (p4 + 1) fun x31 =>
          L_M_equal_81 k131 f p0 p1 p2 (0 : Int32) x31 mm)))
set_option maxHeartbeats 4000000 in
set_option maxRecDepth 100000 in
theorem wL_M_equal_81 {l : Launch} {E : gD} {n0 s0 : Nat} {r : Int32} {res : gM} {k131 : Int32 → gM → Option (Int32 × gM)} (hk131 : ∀ (p3 : Int32) (mm : gM), k131 p3 mm = some (r, res) → xX l E Y_M_equal n0 s0 (some (.int r)) res 131 [(3, .inl p3)] [] mm) : ∀ (f : Nat) (p0 : Option Nat) (p1 : Int32) (p2 : Int32) (p3 : Int32) (p4 : Int32) (mm : gM), L_M_equal_81 k131 f p0 p1 p2 p3 p4 mm = some (r, res) → xX l E Y_M_equal n0 s0 (some (.int r)) res 81 [(0, .inr (.inr p0)), (1, .inl p1), (2, .inl p2), (3, .inl p3), (4, .inl p4)] [] mm := by
  intro f
  induction f with
  | zero =>
    intro p0 p1 p2 p3 p4 mm h
    rw [L_M_equal_81] at h
    cases h
  | succ f ih =>
    intro p0 p1 p2 p3 p4 mm h
    rw [L_M_equal_81] at h
    refine x_iload 81 4 d_M_equal_81 rfl ?_
    refine x_bipush 83 d_M_equal_83 (v := (40 : Int32)) (by decide +kernel) ?_
    refine x_icmp_ge 85 131 d_M_equal_85 (by decide) (fun c19 => ?_) (fun c19 => ?_)
    · replace h := gif_t h c19
      refine x_sub [3] rfl ?_
      exact hk131 _ _ h
    · replace h := gif_f h c19
      refine x_iloadn 88 3 d_M_equal_88 rfl rfl ?_
      refine x_if_eq 89 131 d_M_equal_89 (by decide) (fun c20 => ?_) (fun c20 => ?_)
      · replace h := gif_t h c20
        refine x_sub [3] rfl ?_
        exact hk131 _ _ h
      · replace h := gif_f h c20
        refine x_aloadn 92 0 d_M_equal_92 rfl rfl ?_
        replace h := gb1_elim h; obtain ⟨v21, h22, h⟩ := h
        refine x_getR 93 h22 fl_M_36 d_M_equal_93 ?_
        refine x_bipush 96 d_M_equal_96 (v := (40 : Int32)) (by decide +kernel) ?_
        refine x_iloadn 98 1 d_M_equal_98 rfl rfl ?_
        refine x_imul 99 d_M_equal_99 ?_
        refine x_iload 100 4 d_M_equal_100 rfl ?_
        refine x_iadd 102 d_M_equal_102 ?_
        replace h := gb1_elim h; obtain ⟨v23, h24, h⟩ := h
        refine x_zald 103 rfl h24 d_M_equal_103 ?_
        refine x_aloadn 104 0 d_M_equal_104 rfl rfl ?_
        replace h := gb1_elim h; obtain ⟨v25, h26, h⟩ := h
        refine x_getR 105 h26 fl_M_36 d_M_equal_105 ?_
        refine x_bipush 108 d_M_equal_108 (v := (40 : Int32)) (by decide +kernel) ?_
        refine x_iloadn 110 2 d_M_equal_110 rfl rfl ?_
        refine x_imul 111 d_M_equal_111 ?_
        refine x_iload 112 4 d_M_equal_112 rfl ?_
        refine x_iadd 114 d_M_equal_114 ?_
        replace h := gb1_elim h; obtain ⟨v27, h28, h⟩ := h
        refine x_zald 115 rfl h28 d_M_equal_115 ?_
        refine x_icmp_ne 116 123 d_M_equal_116 (by decide) (fun c29 => ?_) (fun c29 => ?_)
        · replace h := gif_t h c29
          refine x_iconst 119 d_M_equal_119 (v := (1 : Int32)) (by decide +kernel) ?_
          refine x_goto 120 124 d_M_equal_120 (by decide) ?_
          refine x_istoren 124 (lv' := [(3, .inl (1 : Int32)), (0, .inr (.inr p0)), (1, .inl p1), (2, .inl p2), (4, .inl p4)]) d_M_equal_124 rfl (by decide) rfl ?_
          replace h := gLet_elim h; obtain ⟨x30, ex30, h⟩ := h
          refine x_iinc 125 4 (v := x30) (lv' := [(4, .inl x30), (3, .inl (1 : Int32)), (0, .inr (.inr p0)), (1, .inl p1), (2, .inl p2)]) d_M_equal_125 rfl (by rw [ex30]; rfl) (by decide) rfl ?_
          refine x_goto 128 81 d_M_equal_128 (by decide) ?_
          refine x_sub [2, 3, 4, 1, 0] rfl ?_
          exact ih _ _ _ _ _ _ h
        · replace h := gif_f h c29
          refine x_iconst 123 d_M_equal_123 (v := (0 : Int32)) (by decide +kernel) ?_
          refine x_istoren 124 (lv' := [(3, .inl (0 : Int32)), (0, .inr (.inr p0)), (1, .inl p1), (2, .inl p2), (4, .inl p4)]) d_M_equal_124 rfl (by decide) rfl ?_
          replace h := gLet_elim h; obtain ⟨x31, ex31, h⟩ := h
          refine x_iinc 125 4 (v := x31) (lv' := [(4, .inl x31), (3, .inl (0 : Int32)), (0, .inr (.inr p0)), (1, .inl p1), (2, .inl p2)]) d_M_equal_125 rfl (by rw [ex31]; rfl) (by decide) rfl ?_
          refine x_goto 128 81 d_M_equal_128 (by decide) ?_
          refine x_sub [2, 3, 4, 1, 0] rfl ?_
          exact ih _ _ _ _ _ _ h
def F_M_equal (b : Nat) (a0 : Int32) (a1 : Int32) (mm : gM) : Option (Int32 × gM) :=
  gb1 (grc 10 (some b) mm) fun b4 =>
  gb2 (F_M_isSet b4 a0 mm) fun v1 mm2 =>
  gLet (fun (p0 : Option Nat) (p1 : Int32) (p2 : Int32) (q0 : Int32) (mm : gM) =>
    L_M_equal_25 (fun p0 p1 p2 p3 mm =>
      L_M_equal_81 (fun p3 mm =>
        gIf (p3 = 0 ∨ p3 = 1) (some (p3, mm))) gF p0 p1 p2 p3 (0 : Int32) mm) gF p0 p1 p2 q0 (0 : Int32) mm) fun J21 =>
  gLet (fun (p0 : Option Nat) (p1 : Int32) (p2 : Int32) (mm : gM) =>
    J21 p0 p1 p2 (0 : Int32) mm) fun J20 =>
  if v1 = 0 then (
    J20 (some b) a0 a1 mm2)
  else (
    gb1 (grc 10 (some b) mm2) fun b37 =>
    gb2 (F_M_isSet b37 a1 mm2) fun v34 mm35 =>
    if v34 = 0 then (
      J20 (some b) a0 a1 mm35)
    else (
      J21 (some b) a0 a1 (1 : Int32) mm35))
set_option maxHeartbeats 8000000 in
set_option maxRecDepth 100000 in
theorem w_M_equal {l : Launch} {E : gD} {n0 s0 : Nat} {b : Nat} {a0 : Int32} {a1 : Int32} {r : Int32} {mm res : gM} (h : F_M_equal b a0 a1 mm = some (r, res)) : xX l E Y_M_equal n0 s0 (some (.int r)) res 0 [(0, .inr (.inr (some b))), (1, .inl a0), (2, .inl a1)] [] mm := by
  unfold F_M_equal at h
  refine x_aloadn 0 0 d_M_equal_0 rfl rfl ?_
  refine x_iloadn 1 1 d_M_equal_1 rfl rfl ?_
  replace h := gb1_elim h; obtain ⟨b4, h5, h⟩ := h
  replace h := gb2_elim h; obtain ⟨v1, mm2, h3, h⟩ := h
  refine x_callV 2 1 (as := [.inl a0]) (st' := []) (rs := [.inl v1]) (k_M_isSet h3) rfl cf_M_133 ⟨rfl, by decide +kernel, by decide, by decide, Nat.le_of_ble_eq_true rfl⟩ h5 rfl d_M_equal_2 ?_
  replace h := gLet_elim h; obtain ⟨J21, hJ21, h⟩ := h
  have kJ21 : ∀ (p0 : Option Nat) (p1 : Int32) (p2 : Int32) (q0 : Int32) (mm : gM), J21 p0 p1 p2 q0 mm = some (r, res) → xX l E Y_M_equal n0 s0 (some (.int r)) res 21 [(0, .inr (.inr p0)), (1, .inl p1), (2, .inl p2)] [.inl q0] mm := by
    intro p0 p1 p2 q0 mm h
    rw [hJ21] at h
    refine x_istoren 21 (lv' := [(3, .inl q0), (0, .inr (.inr p0)), (1, .inl p1), (2, .inl p2)]) d_M_equal_21 rfl (by decide) rfl ?_
    refine x_iconst 22 d_M_equal_22 (v := (0 : Int32)) (by decide +kernel) ?_
    refine x_istore 23 (lv' := [(4, .inl (0 : Int32)), (3, .inl q0), (0, .inr (.inr p0)), (1, .inl p1), (2, .inl p2)]) d_M_equal_23 (by decide) rfl ?_
    refine x_sub [2, 3, 4, 1, 0] rfl ?_
    refine wL_M_equal_25 ?_ gF _ _ _ _ _ _ h
    · intro p0 p1 p2 p3 mm h
      refine x_iconst 78 d_M_equal_78 (v := (0 : Int32)) (by decide +kernel) ?_
      refine x_istore 79 (lv' := [(4, .inl (0 : Int32)), (0, .inr (.inr p0)), (1, .inl p1), (2, .inl p2), (3, .inl p3)]) d_M_equal_79 (by decide) rfl ?_
      refine x_sub [1, 2, 3, 4, 0] rfl ?_
      refine wL_M_equal_81 ?_ gF _ _ _ _ _ _ h
      · intro p3 mm h
        refine x_iloadn 131 0 d_M_equal_131 rfl rfl ?_
        replace h := gIf_elim h; obtain ⟨c32, h⟩ := h
        cases h
        exact x_zreturn 132 c32 rfl d_M_equal_132
  replace h := gLet_elim h; obtain ⟨J20, hJ20, h⟩ := h
  have kJ20 : ∀ (p0 : Option Nat) (p1 : Int32) (p2 : Int32) (mm : gM), J20 p0 p1 p2 mm = some (r, res) → xX l E Y_M_equal n0 s0 (some (.int r)) res 20 [(0, .inr (.inr p0)), (1, .inl p1), (2, .inl p2)] [] mm := by
    intro p0 p1 p2 mm h
    rw [hJ20] at h
    refine x_iconst 20 d_M_equal_20 (v := (0 : Int32)) (by decide +kernel) ?_
    exact kJ21 _ _ _ _ _ h
  refine x_if_eq 5 20 d_M_equal_5 (by decide) (fun c33 => ?_) (fun c33 => ?_)
  · replace h := gif_t h c33
    exact kJ20 _ _ _ _ h
  · replace h := gif_f h c33
    refine x_aloadn 8 0 d_M_equal_8 rfl rfl ?_
    refine x_iloadn 9 2 d_M_equal_9 rfl rfl ?_
    replace h := gb1_elim h; obtain ⟨b37, h38, h⟩ := h
    replace h := gb2_elim h; obtain ⟨v34, mm35, h36, h⟩ := h
    refine x_callV 10 1 (as := [.inl a1]) (st' := []) (rs := [.inl v34]) (k_M_isSet h36) rfl cf_M_133 ⟨rfl, by decide +kernel, by decide, by decide, Nat.le_of_ble_eq_true rfl⟩ h38 rfl d_M_equal_10 ?_
    refine x_if_eq 13 20 d_M_equal_13 (by decide) (fun c39 => ?_) (fun c39 => ?_)
    · replace h := gif_t h c39
      exact kJ20 _ _ _ _ h
    · replace h := gif_f h c39
      refine x_iconst 16 d_M_equal_16 (v := (1 : Int32)) (by decide +kernel) ?_
      refine x_goto 17 21 d_M_equal_17 (by decide) ?_
      exact kJ21 _ _ _ _ _ h
theorem k_M_equal {b : Nat} {a0 : Int32} {a1 : Int32} {r : Int32} {mm res : gM} (h : F_M_equal b a0 a1 mm = some (r, res)) : ∀ (l : Launch) (E : gD), gLe mm res ∧ gMet l E Y_M_equal y_M_equal [.inr (.inr (some b)), .inl a0, .inl a1] (some (.int r)) mm res :=
  fun l E => ⟨(w_M_equal (l := l) (E := E) (n0 := 0) (s0 := 0) h).1, x_met (by decide +kernel) rfl rfl rfl (Nat.le_of_ble_eq_true rfl) (w_M_equal h)⟩
theorem d_S_known_0 : decode b_S_known 0 = .ok (.aload_n 0, 1) := by decide +kernel
theorem d_S_known_1 : decode b_S_known 1 = .ok (.iload_n 1, 1) := by decide +kernel
theorem d_S_known_2 : decode b_S_known 2 = .ok (.invokevirtual 110, 3) := by decide +kernel
theorem d_S_known_5 : decode b_S_known 5 = .ok (.astore 5, 2) := by decide +kernel
theorem d_S_known_7 : decode b_S_known 7 = .ok (.iload_n 2, 1) := by decide +kernel
theorem d_S_known_8 : decode b_S_known 8 = .ok (.iload_n 3, 1) := by decide +kernel
theorem d_S_known_9 : decode b_S_known 9 = .ok (.invokestatic 60, 3) := by decide +kernel
theorem d_S_known_12 : decode b_S_known 12 = .ok (.istore 6, 2) := by decide +kernel
theorem d_S_known_14 : decode b_S_known 14 = .ok (.aload 5, 2) := by decide +kernel
theorem d_S_known_16 : decode b_S_known 16 = .ok (.ifnull 9, 3) := by decide +kernel
theorem d_S_known_19 : decode b_S_known 19 = .ok (.iload 6, 2) := by decide +kernel
theorem d_S_known_21 : decode b_S_known 21 = .ok (.iconst (-1), 1) := by decide +kernel
theorem d_S_known_22 : decode b_S_known 22 = .ok (.if_icmp .ne 7, 3) := by decide +kernel
theorem d_S_known_25 : decode b_S_known 25 = .ok (.ldc2_w 126, 3) := by decide +kernel
theorem d_S_known_28 : decode b_S_known 28 = .ok (.lreturn, 1) := by decide +kernel
theorem d_S_known_29 : decode b_S_known 29 = .ok (.aload_n 0, 1) := by decide +kernel
theorem d_S_known_30 : decode b_S_known 30 = .ok (.aload 5, 2) := by decide +kernel
theorem d_S_known_32 : decode b_S_known 32 = .ok (.getfield 100, 3) := by decide +kernel
theorem d_S_known_35 : decode b_S_known 35 = .ok (.iload 6, 2) := by decide +kernel
theorem d_S_known_37 : decode b_S_known 37 = .ok (.iload 4, 2) := by decide +kernel
theorem d_S_known_39 : decode b_S_known 39 = .ok (.invokevirtual 128, 3) := by decide +kernel
theorem d_S_known_42 : decode b_S_known 42 = .ok (.lreturn, 1) := by decide +kernel
def F_S_known (b : Nat) (a0 : Int32) (a1 : Int32) (a2 : Int32) (a3 : Int32) (mm : gM) : Option (Int64 × gM) :=
  gb1 (grc 0 (some b) mm) fun b4 =>
  gb2 (F_S_setAt b4 a0 mm) fun v1 mm2 =>
  gb2 (F_S_cellOf a1 a2 mm2) fun v6 mm7 =>
  if v1 = none then (
    some ((-9223372036854775808 : Int64), mm7))
  else (
    if v6 = (-1 : Int32) then (
      some ((-9223372036854775808 : Int64), mm7))
    else (
      gb1 (gfR 4 0 v1 mm7) fun v11 =>
      gb1 (grc 0 (some b) mm7) fun b16 =>
      gb2 (F_S_valueOn b16 v11 v6 a3 mm7) fun v13 mm14 =>
      some (v13, mm14)))
set_option maxHeartbeats 8000000 in
set_option maxRecDepth 100000 in
theorem w_S_known {l : Launch} {E : gD} {n0 s0 : Nat} {b : Nat} {a0 : Int32} {a1 : Int32} {a2 : Int32} {a3 : Int32} {r : Int64} {mm res : gM} (h : F_S_known b a0 a1 a2 a3 mm = some (r, res)) : xX l E Y_S_known n0 s0 (some (.long r)) res 0 [(0, .inr (.inr (some b))), (1, .inl a0), (2, .inl a1), (3, .inl a2), (4, .inl a3)] [] mm := by
  unfold F_S_known at h
  refine x_aloadn 0 0 d_S_known_0 rfl rfl ?_
  refine x_iloadn 1 1 d_S_known_1 rfl rfl ?_
  replace h := gb1_elim h; obtain ⟨b4, h5, h⟩ := h
  replace h := gb2_elim h; obtain ⟨v1, mm2, h3, h⟩ := h
  refine x_callV 2 1 (as := [.inl a0]) (st' := []) (rs := [.inr (.inr v1)]) (k_S_setAt h3) rfl cf_S_110 ⟨rfl, by decide +kernel, by decide, by decide, Nat.le_of_ble_eq_true rfl⟩ h5 rfl d_S_known_2 ?_
  refine x_astore 5 (lv' := [(5, .inr (.inr v1)), (0, .inr (.inr (some b))), (1, .inl a0), (2, .inl a1), (3, .inl a2), (4, .inl a3)]) d_S_known_5 (by decide) rfl ?_
  refine x_iloadn 7 3 d_S_known_7 rfl rfl ?_
  refine x_iloadn 8 4 d_S_known_8 rfl rfl ?_
  replace h := gb2_elim h; obtain ⟨v6, mm7, h8, h⟩ := h
  refine x_callS 9 2 (as := [.inl a1, .inl a2]) (st' := []) (rs := [.inl v6]) (k_S_cellOf h8) rfl cf_S_60 ⟨rfl, by decide +kernel, by decide, by decide, Nat.le_of_ble_eq_true rfl⟩ rfl d_S_known_9 ?_
  refine x_istore 12 (lv' := [(6, .inl v6), (5, .inr (.inr v1)), (0, .inr (.inr (some b))), (1, .inl a0), (2, .inl a1), (3, .inl a2), (4, .inl a3)]) d_S_known_12 (by decide) rfl ?_
  refine x_aload 14 1 d_S_known_14 rfl ?_
  refine x_ifnull 16 25 d_S_known_16 (by decide) (fun c9 => ?_) (fun c9 => ?_)
  · replace h := gif_t h c9
    refine x_ldc2 25 d_S_known_25 (v := (-9223372036854775808 : Int64)) (gT_in2 33 rfl) ?_
    cases h
    exact x_lreturn 28 rfl d_S_known_28
  · replace h := gif_f h c9
    refine x_iload 19 0 d_S_known_19 rfl ?_
    refine x_iconst 21 d_S_known_21 (v := (-1 : Int32)) (by decide +kernel) ?_
    refine x_icmp_ne 22 29 d_S_known_22 (by decide) (fun c10 => ?_) (fun c10 => ?_)
    · replace h := gif_t h c10
      refine x_ldc2 25 d_S_known_25 (v := (-9223372036854775808 : Int64)) (gT_in2 33 rfl) ?_
      cases h
      exact x_lreturn 28 rfl d_S_known_28
    · replace h := gif_f h c10
      refine x_aloadn 29 2 d_S_known_29 rfl rfl ?_
      refine x_aload 30 1 d_S_known_30 rfl ?_
      replace h := gb1_elim h; obtain ⟨v11, h12, h⟩ := h
      refine x_getR 32 h12 fl_S_100 d_S_known_32 ?_
      refine x_iload 35 0 d_S_known_35 rfl ?_
      refine x_iload 37 6 d_S_known_37 rfl ?_
      replace h := gb1_elim h; obtain ⟨b16, h17, h⟩ := h
      replace h := gb2_elim h; obtain ⟨v13, mm14, h15, h⟩ := h
      refine x_callV 39 3 (as := [.inr (.inr v11), .inl v6, .inl a3]) (st' := []) (rs := [.inr (.inl v13)]) (k_S_valueOn h15) rfl cf_S_128 ⟨rfl, by decide +kernel, by decide, by decide, Nat.le_of_ble_eq_true rfl⟩ h17 rfl d_S_known_39 ?_
      cases h
      exact x_lreturn 42 rfl d_S_known_42
theorem k_S_known {b : Nat} {a0 : Int32} {a1 : Int32} {a2 : Int32} {a3 : Int32} {r : Int64} {mm res : gM} (h : F_S_known b a0 a1 a2 a3 mm = some (r, res)) : ∀ (l : Launch) (E : gD), gLe mm res ∧ gMet l E Y_S_known y_S_known [.inr (.inr (some b)), .inl a0, .inl a1, .inl a2, .inl a3] (some (.long r)) mm res :=
  fun l E => ⟨(w_S_known (l := l) (E := E) (n0 := 0) (s0 := 0) h).1, x_met (by decide +kernel) rfl rfl rfl (Nat.le_of_ble_eq_true rfl) (w_S_known h)⟩
theorem d_M_known_0 : decode b_M_known 0 = .ok (.aload_n 0, 1) := by decide +kernel
theorem d_M_known_1 : decode b_M_known 1 = .ok (.iload_n 1, 1) := by decide +kernel
theorem d_M_known_2 : decode b_M_known 2 = .ok (.invokevirtual 133, 3) := by decide +kernel
theorem d_M_known_5 : decode b_M_known 5 = .ok (.ifCond .eq 15, 3) := by decide +kernel
theorem d_M_known_8 : decode b_M_known 8 = .ok (.aload_n 0, 1) := by decide +kernel
theorem d_M_known_9 : decode b_M_known 9 = .ok (.iload_n 1, 1) := by decide +kernel
theorem d_M_known_10 : decode b_M_known 10 = .ok (.iload_n 2, 1) := by decide +kernel
theorem d_M_known_11 : decode b_M_known 11 = .ok (.iload_n 3, 1) := by decide +kernel
theorem d_M_known_12 : decode b_M_known 12 = .ok (.iload 4, 2) := by decide +kernel
theorem d_M_known_14 : decode b_M_known 14 = .ok (.invokevirtual 136, 3) := by decide +kernel
theorem d_M_known_17 : decode b_M_known 17 = .ok (.goto 6, 3) := by decide +kernel
theorem d_M_known_20 : decode b_M_known 20 = .ok (.ldc2_w 124, 3) := by decide +kernel
theorem d_M_known_23 : decode b_M_known 23 = .ok (.lreturn, 1) := by decide +kernel
def F_M_known (b : Nat) (a0 : Int32) (a1 : Int32) (a2 : Int32) (a3 : Int32) (mm : gM) : Option (Int64 × gM) :=
  gb1 (grc 10 (some b) mm) fun b4 =>
  gb2 (F_M_isSet b4 a0 mm) fun v1 mm2 =>
  if v1 = 0 then (
    some ((-9223372036854775808 : Int64), mm2))
  else (
    gb1 (grc 10 (some b) mm2) fun b10 =>
    gb2 (F_M_valueOf b10 a0 a1 a2 a3 mm2) fun v7 mm8 =>
    some (v7, mm8))
set_option maxHeartbeats 8000000 in
set_option maxRecDepth 100000 in
theorem w_M_known {l : Launch} {E : gD} {n0 s0 : Nat} {b : Nat} {a0 : Int32} {a1 : Int32} {a2 : Int32} {a3 : Int32} {r : Int64} {mm res : gM} (h : F_M_known b a0 a1 a2 a3 mm = some (r, res)) : xX l E Y_M_known n0 s0 (some (.long r)) res 0 [(0, .inr (.inr (some b))), (1, .inl a0), (2, .inl a1), (3, .inl a2), (4, .inl a3)] [] mm := by
  unfold F_M_known at h
  refine x_aloadn 0 0 d_M_known_0 rfl rfl ?_
  refine x_iloadn 1 1 d_M_known_1 rfl rfl ?_
  replace h := gb1_elim h; obtain ⟨b4, h5, h⟩ := h
  replace h := gb2_elim h; obtain ⟨v1, mm2, h3, h⟩ := h
  refine x_callV 2 1 (as := [.inl a0]) (st' := []) (rs := [.inl v1]) (k_M_isSet h3) rfl cf_M_133 ⟨rfl, by decide +kernel, by decide, by decide, Nat.le_of_ble_eq_true rfl⟩ h5 rfl d_M_known_2 ?_
  refine x_if_eq 5 20 d_M_known_5 (by decide) (fun c6 => ?_) (fun c6 => ?_)
  · replace h := gif_t h c6
    refine x_ldc2 20 d_M_known_20 (v := (-9223372036854775808 : Int64)) (gT_in4 14 rfl) ?_
    cases h
    exact x_lreturn 23 rfl d_M_known_23
  · replace h := gif_f h c6
    refine x_aloadn 8 0 d_M_known_8 rfl rfl ?_
    refine x_iloadn 9 1 d_M_known_9 rfl rfl ?_
    refine x_iloadn 10 2 d_M_known_10 rfl rfl ?_
    refine x_iloadn 11 3 d_M_known_11 rfl rfl ?_
    refine x_iload 12 4 d_M_known_12 rfl ?_
    replace h := gb1_elim h; obtain ⟨b10, h11, h⟩ := h
    replace h := gb2_elim h; obtain ⟨v7, mm8, h9, h⟩ := h
    refine x_callV 14 4 (as := [.inl a0, .inl a1, .inl a2, .inl a3]) (st' := []) (rs := [.inr (.inl v7)]) (k_M_valueOf h9) rfl cf_M_136 ⟨rfl, by decide +kernel, by decide, by decide, Nat.le_of_ble_eq_true rfl⟩ h11 rfl d_M_known_14 ?_
    refine x_goto 17 23 d_M_known_17 (by decide) ?_
    cases h
    exact x_lreturn 23 rfl d_M_known_23
theorem k_M_known {b : Nat} {a0 : Int32} {a1 : Int32} {a2 : Int32} {a3 : Int32} {r : Int64} {mm res : gM} (h : F_M_known b a0 a1 a2 a3 mm = some (r, res)) : ∀ (l : Launch) (E : gD), gLe mm res ∧ gMet l E Y_M_known y_M_known [.inr (.inr (some b)), .inl a0, .inl a1, .inl a2, .inl a3] (some (.long r)) mm res :=
  fun l E => ⟨(w_M_known (l := l) (E := E) (n0 := 0) (s0 := 0) h).1, x_met (by decide +kernel) rfl rfl rfl (Nat.le_of_ble_eq_true rfl) (w_M_known h)⟩
theorem d_S_cellInConflict_0 : decode b_S_cellInConflict 0 = .ok (.iconst 0, 1) := by decide +kernel
theorem d_S_cellInConflict_1 : decode b_S_cellInConflict 1 = .ok (.istore_n 3, 1) := by decide +kernel
theorem d_S_cellInConflict_2 : decode b_S_cellInConflict 2 = .ok (.iconst 0, 1) := by decide +kernel
theorem d_S_cellInConflict_3 : decode b_S_cellInConflict 3 = .ok (.istore 4, 2) := by decide +kernel
theorem d_S_cellInConflict_5 : decode b_S_cellInConflict 5 = .ok (.iload 4, 2) := by decide +kernel
theorem d_S_cellInConflict_7 : decode b_S_cellInConflict 7 = .ok (.sipush 128, 3) := by decide +kernel
theorem d_S_cellInConflict_10 : decode b_S_cellInConflict 10 = .ok (.if_icmp .ge 30, 3) := by decide +kernel
theorem d_S_cellInConflict_13 : decode b_S_cellInConflict 13 = .ok (.aload_n 0, 1) := by decide +kernel
theorem d_S_cellInConflict_14 : decode b_S_cellInConflict 14 = .ok (.aload_n 1, 1) := by decide +kernel
theorem d_S_cellInConflict_15 : decode b_S_cellInConflict 15 = .ok (.iload 4, 2) := by decide +kernel
theorem d_S_cellInConflict_17 : decode b_S_cellInConflict 17 = .ok (.invokevirtual 250, 3) := by decide +kernel
theorem d_S_cellInConflict_20 : decode b_S_cellInConflict 20 = .ok (.ifCond .eq 14, 3) := by decide +kernel
theorem d_S_cellInConflict_23 : decode b_S_cellInConflict 23 = .ok (.iload_n 3, 1) := by decide +kernel
theorem d_S_cellInConflict_24 : decode b_S_cellInConflict 24 = .ok (.iload_n 2, 1) := by decide +kernel
theorem d_S_cellInConflict_25 : decode b_S_cellInConflict 25 = .ok (.if_icmp .ne 6, 3) := by decide +kernel
theorem d_S_cellInConflict_28 : decode b_S_cellInConflict 28 = .ok (.iload 4, 2) := by decide +kernel
theorem d_S_cellInConflict_30 : decode b_S_cellInConflict 30 = .ok (.ireturn, 1) := by decide +kernel
theorem d_S_cellInConflict_31 : decode b_S_cellInConflict 31 = .ok (.iinc 3 1, 3) := by decide +kernel
theorem d_S_cellInConflict_34 : decode b_S_cellInConflict 34 = .ok (.iinc 4 1, 3) := by decide +kernel
theorem d_S_cellInConflict_37 : decode b_S_cellInConflict 37 = .ok (.goto (-32), 3) := by decide +kernel
theorem d_S_cellInConflict_40 : decode b_S_cellInConflict 40 = .ok (.iconst (-1), 1) := by decide +kernel
theorem d_S_cellInConflict_41 : decode b_S_cellInConflict 41 = .ok (.ireturn, 1) := by decide +kernel
def L_S_cellInConflict_5 (k28 : Int32 → gM → Option (Int32 × gM)) (k40 : gM → Option (Int32 × gM)) : Nat → Option Nat → Option Nat → Int32 → Int32 → Int32 → gM → Option (Int32 × gM)
  | 0, _, _, _, _, _, _ => none
  | f + 1, p0, p1, p2, p3, p4, mm =>
    if (128 : Int32) ≤ p4 then (
      k40  mm)
    else (
      gb1 (grc 0 p0 mm) fun b5 =>
      gb2 (F_S_isInConflict b5 p1 p4 mm) fun v2 mm3 =>
      if v2 = 0 then (
        gLet (p4 + 1) fun x8 =>
        L_S_cellInConflict_5 k28 k40 f p0 p1 p2 p3 x8 mm3)
      else (
        if p3 = p2 then (
          k28 p4 mm3)
        else (
          gLet (p3 + 1) fun x10 =>
          gLet (p4 + 1) fun x11 =>
          L_S_cellInConflict_5 k28 k40 f p0 p1 p2 x10 x11 mm3)))
set_option maxHeartbeats 4000000 in
set_option maxRecDepth 100000 in
theorem wL_S_cellInConflict_5 {l : Launch} {E : gD} {n0 s0 : Nat} {r : Int32} {res : gM} {k28 : Int32 → gM → Option (Int32 × gM)} {k40 : gM → Option (Int32 × gM)} (hk28 : ∀ (p4 : Int32) (mm : gM), k28 p4 mm = some (r, res) → xX l E Y_S_cellInConflict n0 s0 (some (.int r)) res 28 [(4, .inl p4)] [] mm) (hk40 : ∀  (mm : gM), k40  mm = some (r, res) → xX l E Y_S_cellInConflict n0 s0 (some (.int r)) res 40 [] [] mm) : ∀ (f : Nat) (p0 : Option Nat) (p1 : Option Nat) (p2 : Int32) (p3 : Int32) (p4 : Int32) (mm : gM), L_S_cellInConflict_5 k28 k40 f p0 p1 p2 p3 p4 mm = some (r, res) → xX l E Y_S_cellInConflict n0 s0 (some (.int r)) res 5 [(0, .inr (.inr p0)), (1, .inr (.inr p1)), (2, .inl p2), (3, .inl p3), (4, .inl p4)] [] mm := by
  intro f
  induction f with
  | zero =>
    intro p0 p1 p2 p3 p4 mm h
    rw [L_S_cellInConflict_5] at h
    cases h
  | succ f ih =>
    intro p0 p1 p2 p3 p4 mm h
    rw [L_S_cellInConflict_5] at h
    refine x_iload 5 4 d_S_cellInConflict_5 rfl ?_
    refine x_sipush 7 d_S_cellInConflict_7 (v := (128 : Int32)) (by decide +kernel) ?_
    refine x_icmp_ge 10 40 d_S_cellInConflict_10 (by decide) (fun c1 => ?_) (fun c1 => ?_)
    · replace h := gif_t h c1
      refine x_sub [] rfl ?_
      exact hk40 _ h
    · replace h := gif_f h c1
      refine x_aloadn 13 0 d_S_cellInConflict_13 rfl rfl ?_
      refine x_aloadn 14 1 d_S_cellInConflict_14 rfl rfl ?_
      refine x_iload 15 4 d_S_cellInConflict_15 rfl ?_
      replace h := gb1_elim h; obtain ⟨b5, h6, h⟩ := h
      replace h := gb2_elim h; obtain ⟨v2, mm3, h4, h⟩ := h
      refine x_callV 17 2 (as := [.inr (.inr p1), .inl p4]) (st' := []) (rs := [.inl v2]) (k_S_isInConflict h4) rfl cf_S_250 ⟨rfl, by decide +kernel, by decide, by decide, Nat.le_of_ble_eq_true rfl⟩ h6 rfl d_S_cellInConflict_17 ?_
      refine x_if_eq 20 34 d_S_cellInConflict_20 (by decide) (fun c7 => ?_) (fun c7 => ?_)
      · replace h := gif_t h c7
        replace h := gLet_elim h; obtain ⟨x8, ex8, h⟩ := h
        refine x_iinc 34 4 (v := x8) (lv' := [(4, .inl x8), (0, .inr (.inr p0)), (1, .inr (.inr p1)), (2, .inl p2), (3, .inl p3)]) d_S_cellInConflict_34 rfl (by rw [ex8]; rfl) (by decide) rfl ?_
        refine x_goto 37 5 d_S_cellInConflict_37 (by decide) ?_
        refine x_sub [1, 2, 3, 4, 0] rfl ?_
        exact ih _ _ _ _ _ _ h
      · replace h := gif_f h c7
        refine x_iloadn 23 3 d_S_cellInConflict_23 rfl rfl ?_
        refine x_iloadn 24 2 d_S_cellInConflict_24 rfl rfl ?_
        refine x_icmp_ne 25 31 d_S_cellInConflict_25 (by decide) (fun c9 => ?_) (fun c9 => ?_)
        · replace h := gif_t h c9
          refine x_sub [4] rfl ?_
          exact hk28 _ _ h
        · replace h := gif_f h c9
          replace h := gLet_elim h; obtain ⟨x10, ex10, h⟩ := h
          refine x_iinc 31 3 (v := x10) (lv' := [(3, .inl x10), (0, .inr (.inr p0)), (1, .inr (.inr p1)), (2, .inl p2), (4, .inl p4)]) d_S_cellInConflict_31 rfl (by rw [ex10]; rfl) (by decide) rfl ?_
          replace h := gLet_elim h; obtain ⟨x11, ex11, h⟩ := h
          refine x_iinc 34 4 (v := x11) (lv' := [(4, .inl x11), (3, .inl x10), (0, .inr (.inr p0)), (1, .inr (.inr p1)), (2, .inl p2)]) d_S_cellInConflict_34 rfl (by rw [ex11]; rfl) (by decide) rfl ?_
          refine x_goto 37 5 d_S_cellInConflict_37 (by decide) ?_
          refine x_sub [2, 3, 4, 1, 0] rfl ?_
          exact ih _ _ _ _ _ _ h
def F_S_cellInConflict (b : Nat) (a0 : Option Nat) (a1 : Int32) (mm : gM) : Option (Int32 × gM) :=
  L_S_cellInConflict_5 (fun p4 mm =>
    some (p4, mm)) (fun  mm =>
    some ((-1 : Int32), mm)) gF (some b) a0 a1 (0 : Int32) (0 : Int32) mm
set_option maxHeartbeats 8000000 in
set_option maxRecDepth 100000 in
theorem w_S_cellInConflict {l : Launch} {E : gD} {n0 s0 : Nat} {b : Nat} {a0 : Option Nat} {a1 : Int32} {r : Int32} {mm res : gM} (h : F_S_cellInConflict b a0 a1 mm = some (r, res)) : xX l E Y_S_cellInConflict n0 s0 (some (.int r)) res 0 [(0, .inr (.inr (some b))), (1, .inr (.inr a0)), (2, .inl a1)] [] mm := by
  unfold F_S_cellInConflict at h
  refine x_iconst 0 d_S_cellInConflict_0 (v := (0 : Int32)) (by decide +kernel) ?_
  refine x_istoren 1 (lv' := [(3, .inl (0 : Int32)), (0, .inr (.inr (some b))), (1, .inr (.inr a0)), (2, .inl a1)]) d_S_cellInConflict_1 rfl (by decide) rfl ?_
  refine x_iconst 2 d_S_cellInConflict_2 (v := (0 : Int32)) (by decide +kernel) ?_
  refine x_istore 3 (lv' := [(4, .inl (0 : Int32)), (3, .inl (0 : Int32)), (0, .inr (.inr (some b))), (1, .inr (.inr a0)), (2, .inl a1)]) d_S_cellInConflict_3 (by decide) rfl ?_
  refine x_sub [2, 3, 4, 1, 0] rfl ?_
  refine wL_S_cellInConflict_5 ?_ ?_ gF _ _ _ _ _ _ h
  · intro p4 mm h
    refine x_iload 28 0 d_S_cellInConflict_28 rfl ?_
    cases h
    exact x_ireturn 30 rfl d_S_cellInConflict_30
  · intro  mm h
    refine x_iconst 40 d_S_cellInConflict_40 (v := (-1 : Int32)) (by decide +kernel) ?_
    cases h
    exact x_ireturn 41 rfl d_S_cellInConflict_41
theorem k_S_cellInConflict {b : Nat} {a0 : Option Nat} {a1 : Int32} {r : Int32} {mm res : gM} (h : F_S_cellInConflict b a0 a1 mm = some (r, res)) : ∀ (l : Launch) (E : gD), gLe mm res ∧ gMet l E Y_S_cellInConflict y_S_cellInConflict [.inr (.inr (some b)), .inr (.inr a0), .inl a1] (some (.int r)) mm res :=
  fun l E => ⟨(w_S_cellInConflict (l := l) (E := E) (n0 := 0) (s0 := 0) h).1, x_met (by decide +kernel) rfl rfl rfl (Nat.le_of_ble_eq_true rfl) (w_S_cellInConflict h)⟩
