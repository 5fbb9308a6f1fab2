-- M_join Holding_isSameAs S_equal
theorem d_M_join_0 : decode b_M_join 0 = .ok (.aload_n 0, 1) := by decide +kernel
theorem d_M_join_1 : decode b_M_join 1 = .ok (.iload_n 1, 1) := by decide +kernel
theorem d_M_join_2 : decode b_M_join 2 = .ok (.invokevirtual 133, 3) := by decide +kernel
theorem d_M_join_5 : decode b_M_join 5 = .ok (.ifCond .eq 11, 3) := by decide +kernel
theorem d_M_join_8 : decode b_M_join 8 = .ok (.aload_n 0, 1) := by decide +kernel
theorem d_M_join_9 : decode b_M_join 9 = .ok (.iload_n 2, 1) := by decide +kernel
theorem d_M_join_10 : decode b_M_join 10 = .ok (.invokevirtual 133, 3) := by decide +kernel
theorem d_M_join_13 : decode b_M_join 13 = .ok (.ifCond .ne 5, 3) := by decide +kernel
theorem d_M_join_16 : decode b_M_join 16 = .ok (.iconst (-1), 1) := by decide +kernel
theorem d_M_join_17 : decode b_M_join 17 = .ok (.ireturn, 1) := by decide +kernel
theorem d_M_join_18 : decode b_M_join 18 = .ok (.iconst 0, 1) := by decide +kernel
theorem d_M_join_19 : decode b_M_join 19 = .ok (.istore_n 3, 1) := by decide +kernel
theorem d_M_join_20 : decode b_M_join 20 = .ok (.iload_n 3, 1) := by decide +kernel
theorem d_M_join_21 : decode b_M_join 21 = .ok (.sipush 200, 3) := by decide +kernel
theorem d_M_join_24 : decode b_M_join 24 = .ok (.if_icmp .ge 56, 3) := by decide +kernel
theorem d_M_join_27 : decode b_M_join 27 = .ok (.aload_n 0, 1) := by decide +kernel
theorem d_M_join_28 : decode b_M_join 28 = .ok (.getfield 33, 3) := by decide +kernel
theorem d_M_join_31 : decode b_M_join 31 = .ok (.sipush 200, 3) := by decide +kernel
theorem d_M_join_34 : decode b_M_join 34 = .ok (.iload_n 1, 1) := by decide +kernel
theorem d_M_join_35 : decode b_M_join 35 = .ok (.imul, 1) := by decide +kernel
theorem d_M_join_36 : decode b_M_join 36 = .ok (.iload_n 3, 1) := by decide +kernel
theorem d_M_join_37 : decode b_M_join 37 = .ok (.iadd, 1) := by decide +kernel
theorem d_M_join_38 : decode b_M_join 38 = .ok (.aload_n 0, 1) := by decide +kernel
theorem d_M_join_39 : decode b_M_join 39 = .ok (.getfield 33, 3) := by decide +kernel
theorem d_M_join_42 : decode b_M_join 42 = .ok (.sipush 200, 3) := by decide +kernel
theorem d_M_join_45 : decode b_M_join 45 = .ok (.iload_n 1, 1) := by decide +kernel
theorem d_M_join_46 : decode b_M_join 46 = .ok (.imul, 1) := by decide +kernel
theorem d_M_join_47 : decode b_M_join 47 = .ok (.iload_n 3, 1) := by decide +kernel
theorem d_M_join_48 : decode b_M_join 48 = .ok (.iadd, 1) := by decide +kernel
theorem d_M_join_49 : decode b_M_join 49 = .ok (.baload, 1) := by decide +kernel
theorem d_M_join_50 : decode b_M_join 50 = .ok (.ifCond .ne 18, 3) := by decide +kernel
theorem d_M_join_53 : decode b_M_join 53 = .ok (.aload_n 0, 1) := by decide +kernel
theorem d_M_join_54 : decode b_M_join 54 = .ok (.getfield 33, 3) := by decide +kernel
theorem d_M_join_57 : decode b_M_join 57 = .ok (.sipush 200, 3) := by decide +kernel
theorem d_M_join_60 : decode b_M_join 60 = .ok (.iload_n 2, 1) := by decide +kernel
theorem d_M_join_61 : decode b_M_join 61 = .ok (.imul, 1) := by decide +kernel
theorem d_M_join_62 : decode b_M_join 62 = .ok (.iload_n 3, 1) := by decide +kernel
theorem d_M_join_63 : decode b_M_join 63 = .ok (.iadd, 1) := by decide +kernel
theorem d_M_join_64 : decode b_M_join 64 = .ok (.baload, 1) := by decide +kernel
theorem d_M_join_65 : decode b_M_join 65 = .ok (.ifCond .eq 7, 3) := by decide +kernel
theorem d_M_join_68 : decode b_M_join 68 = .ok (.iconst 1, 1) := by decide +kernel
theorem d_M_join_69 : decode b_M_join 69 = .ok (.goto 4, 3) := by decide +kernel
theorem d_M_join_72 : decode b_M_join 72 = .ok (.iconst 0, 1) := by decide +kernel
theorem d_M_join_73 : decode b_M_join 73 = .ok (.bastore, 1) := by decide +kernel
theorem d_M_join_74 : decode b_M_join 74 = .ok (.iinc 3 1, 3) := by decide +kernel
theorem d_M_join_77 : decode b_M_join 77 = .ok (.goto (-57), 3) := by decide +kernel
theorem d_M_join_80 : decode b_M_join 80 = .ok (.iconst 0, 1) := by decide +kernel
theorem d_M_join_81 : decode b_M_join 81 = .ok (.istore_n 3, 1) := by decide +kernel
theorem d_M_join_82 : decode b_M_join 82 = .ok (.iload_n 3, 1) := by decide +kernel
theorem d_M_join_83 : decode b_M_join 83 = .ok (.bipush 40, 2) := by decide +kernel
theorem d_M_join_85 : decode b_M_join 85 = .ok (.if_icmp .ge 53, 3) := by decide +kernel
theorem d_M_join_88 : decode b_M_join 88 = .ok (.aload_n 0, 1) := by decide +kernel
theorem d_M_join_89 : decode b_M_join 89 = .ok (.getfield 36, 3) := by decide +kernel
theorem d_M_join_92 : decode b_M_join 92 = .ok (.bipush 40, 2) := by decide +kernel
theorem d_M_join_94 : decode b_M_join 94 = .ok (.iload_n 1, 1) := by decide +kernel
theorem d_M_join_95 : decode b_M_join 95 = .ok (.imul, 1) := by decide +kernel
theorem d_M_join_96 : decode b_M_join 96 = .ok (.iload_n 3, 1) := by decide +kernel
theorem d_M_join_97 : decode b_M_join 97 = .ok (.iadd, 1) := by decide +kernel
theorem d_M_join_98 : decode b_M_join 98 = .ok (.aload_n 0, 1) := by decide +kernel
theorem d_M_join_99 : decode b_M_join 99 = .ok (.getfield 36, 3) := by decide +kernel
theorem d_M_join_102 : decode b_M_join 102 = .ok (.bipush 40, 2) := by decide +kernel
theorem d_M_join_104 : decode b_M_join 104 = .ok (.iload_n 1, 1) := by decide +kernel
theorem d_M_join_105 : decode b_M_join 105 = .ok (.imul, 1) := by decide +kernel
theorem d_M_join_106 : decode b_M_join 106 = .ok (.iload_n 3, 1) := by decide +kernel
theorem d_M_join_107 : decode b_M_join 107 = .ok (.iadd, 1) := by decide +kernel
theorem d_M_join_108 : decode b_M_join 108 = .ok (.baload, 1) := by decide +kernel
theorem d_M_join_109 : decode b_M_join 109 = .ok (.ifCond .ne 17, 3) := by decide +kernel
theorem d_M_join_112 : decode b_M_join 112 = .ok (.aload_n 0, 1) := by decide +kernel
theorem d_M_join_113 : decode b_M_join 113 = .ok (.getfield 36, 3) := by decide +kernel
theorem d_M_join_116 : decode b_M_join 116 = .ok (.bipush 40, 2) := by decide +kernel
theorem d_M_join_118 : decode b_M_join 118 = .ok (.iload_n 2, 1) := by decide +kernel
theorem d_M_join_119 : decode b_M_join 119 = .ok (.imul, 1) := by decide +kernel
theorem d_M_join_120 : decode b_M_join 120 = .ok (.iload_n 3, 1) := by decide +kernel
theorem d_M_join_121 : decode b_M_join 121 = .ok (.iadd, 1) := by decide +kernel
theorem d_M_join_122 : decode b_M_join 122 = .ok (.baload, 1) := by decide +kernel
theorem d_M_join_123 : decode b_M_join 123 = .ok (.ifCond .eq 7, 3) := by decide +kernel
theorem d_M_join_126 : decode b_M_join 126 = .ok (.iconst 1, 1) := by decide +kernel
theorem d_M_join_127 : decode b_M_join 127 = .ok (.goto 4, 3) := by decide +kernel
theorem d_M_join_130 : decode b_M_join 130 = .ok (.iconst 0, 1) := by decide +kernel
theorem d_M_join_131 : decode b_M_join 131 = .ok (.bastore, 1) := by decide +kernel
theorem d_M_join_132 : decode b_M_join 132 = .ok (.iinc 3 1, 3) := by decide +kernel
theorem d_M_join_135 : decode b_M_join 135 = .ok (.goto (-53), 3) := by decide +kernel
theorem d_M_join_138 : decode b_M_join 138 = .ok (.iconst 0, 1) := by decide +kernel
theorem d_M_join_139 : decode b_M_join 139 = .ok (.istore_n 3, 1) := by decide +kernel
theorem d_M_join_140 : decode b_M_join 140 = .ok (.iconst 0, 1) := by decide +kernel
theorem d_M_join_141 : decode b_M_join 141 = .ok (.istore 4, 2) := by decide +kernel
theorem d_M_join_143 : decode b_M_join 143 = .ok (.iload 4, 2) := by decide +kernel
theorem d_M_join_145 : decode b_M_join 145 = .ok (.sipush 128, 3) := by decide +kernel
theorem d_M_join_148 : decode b_M_join 148 = .ok (.if_icmp .ge 35, 3) := by decide +kernel
theorem d_M_join_151 : decode b_M_join 151 = .ok (.iload_n 3, 1) := by decide +kernel
theorem d_M_join_152 : decode b_M_join 152 = .ok (.aload_n 0, 1) := by decide +kernel
theorem d_M_join_153 : decode b_M_join 153 = .ok (.iload_n 1, 1) := by decide +kernel
theorem d_M_join_154 : decode b_M_join 154 = .ok (.iload 4, 2) := by decide +kernel
theorem d_M_join_156 : decode b_M_join 156 = .ok (.bipush 8, 2) := by decide +kernel
theorem d_M_join_158 : decode b_M_join 158 = .ok (.idiv, 1) := by decide +kernel
theorem d_M_join_159 : decode b_M_join 159 = .ok (.iload 4, 2) := by decide +kernel
theorem d_M_join_161 : decode b_M_join 161 = .ok (.bipush 8, 2) := by decide +kernel
theorem d_M_join_163 : decode b_M_join 163 = .ok (.irem, 1) := by decide +kernel
theorem d_M_join_164 : decode b_M_join 164 = .ok (.invokevirtual 141, 3) := by decide +kernel
theorem d_M_join_167 : decode b_M_join 167 = .ok (.ifCond .eq 7, 3) := by decide +kernel
theorem d_M_join_170 : decode b_M_join 170 = .ok (.iconst 1, 1) := by decide +kernel
theorem d_M_join_171 : decode b_M_join 171 = .ok (.goto 4, 3) := by decide +kernel
theorem d_M_join_174 : decode b_M_join 174 = .ok (.iconst 0, 1) := by decide +kernel
theorem d_M_join_175 : decode b_M_join 175 = .ok (.iadd, 1) := by decide +kernel
theorem d_M_join_176 : decode b_M_join 176 = .ok (.istore_n 3, 1) := by decide +kernel
theorem d_M_join_177 : decode b_M_join 177 = .ok (.iinc 4 1, 3) := by decide +kernel
theorem d_M_join_180 : decode b_M_join 180 = .ok (.goto (-37), 3) := by decide +kernel
theorem d_M_join_183 : decode b_M_join 183 = .ok (.iload_n 3, 1) := by decide +kernel
theorem d_M_join_184 : decode b_M_join 184 = .ok (.ireturn, 1) := by decide +kernel
def L_M_join_20 (k80 : Option Nat → Int32 → Int32 → gM → Option (Int32 × gM)) : Nat → Option Nat → Int32 → Int32 → Int32 → gM → Option (Int32 × gM)
  | 0, _, _, _, _, _ => none
  | f + 1, p0, p1, p2, p3, mm =>
    if (200 : Int32) ≤ p3 then (
      k80 p0 p1 p2 mm)
    else (
      gb1 (gfR 10 10 p0 mm) fun v14 =>
      gb1 (gfR 10 10 p0 mm) fun v16 =>
      gb1 (gaI 2 v16 (((200 : Int32) * p1) + p3) mm) fun v18 =>
      if v18 = 0 then (
        gb1 (gfR 10 10 p0 mm) fun v21 =>
        gb1 (gaI 2 v21 (((200 : Int32) * p2) + p3) mm) fun v23 =>
        if v23 = 0 then (
          gb1 (gsI 2 v14 (((200 : Int32) * p1) + p3) (0 : Int32) mm) fun mm26 =>
          gLet (p3 + 1) fun x28 =>
          L_M_join_20 k80 f p0 p1 p2 x28 mm26)
        else (
          gb1 (gsI 2 v14 (((200 : Int32) * p1) + p3) (1 : Int32) mm) fun mm29 =>
          gLet (p3 + 1) fun x31 =>
          L_M_join_20 k80 f p0 p1 p2 x31 mm29))
      else (
        gb1 (gsI 2 v14 (((200 : Int32) * p1) + p3) (1 : Int32) mm) fun mm32 =>
        gLet (p3 + 1) fun x34 =>
        L_M_join_20 k80 f p0 p1 p2 x34 mm32))
set_option maxHeartbeats 4000000 in
set_option maxRecDepth 100000 in
theorem wL_M_join_20 {l : Launch} {E : gD} {n0 s0 : Nat} {r : Int32} {res : gM} {k80 : Option Nat → Int32 → Int32 → gM → Option (Int32 × gM)} (hk80 : ∀ (p0 : Option Nat) (p1 : Int32) (p2 : Int32) (mm : gM), k80 p0 p1 p2 mm = some (r, res) → xX l E Y_M_join n0 s0 (some (.int r)) res 80 [(0, .inr (.inr p0)), (1, .inl p1), (2, .inl p2)] [] mm) : ∀ (f : Nat) (p0 : Option Nat) (p1 : Int32) (p2 : Int32) (p3 : Int32) (mm : gM), L_M_join_20 k80 f p0 p1 p2 p3 mm = some (r, res) → xX l E Y_M_join n0 s0 (some (.int r)) res 20 [(0, .inr (.inr p0)), (1, .inl p1), (2, .inl p2), (3, .inl p3)] [] mm := by
  intro f
  induction f with
  | zero =>
    intro p0 p1 p2 p3 mm h
    rw [L_M_join_20] at h
    cases h
  | succ f ih =>
    intro p0 p1 p2 p3 mm h
    rw [L_M_join_20] at h
    refine x_iloadn 20 3 d_M_join_20 rfl rfl ?_
    refine x_sipush 21 d_M_join_21 (v := (200 : Int32)) (by decide +kernel) ?_
    refine x_icmp_ge 24 80 d_M_join_24 (by decide) (fun c13 => ?_) (fun c13 => ?_)
    · replace h := gif_t h c13
      refine x_sub [0, 1, 2] rfl ?_
      exact hk80 _ _ _ _ h
    · replace h := gif_f h c13
      refine x_aloadn 27 0 d_M_join_27 rfl rfl ?_
      replace h := gb1_elim h; obtain ⟨v14, h15, h⟩ := h
      refine x_getR 28 h15 fl_M_33 d_M_join_28 ?_
      refine x_sipush 31 d_M_join_31 (v := (200 : Int32)) (by decide +kernel) ?_
      refine x_iloadn 34 1 d_M_join_34 rfl rfl ?_
      refine x_imul 35 d_M_join_35 ?_
      refine x_iloadn 36 3 d_M_join_36 rfl rfl ?_
      refine x_iadd 37 d_M_join_37 ?_
      refine x_aloadn 38 0 d_M_join_38 rfl rfl ?_
      replace h := gb1_elim h; obtain ⟨v16, h17, h⟩ := h
      refine x_getR 39 h17 fl_M_33 d_M_join_39 ?_
      refine x_sipush 42 d_M_join_42 (v := (200 : Int32)) (by decide +kernel) ?_
      refine x_iloadn 45 1 d_M_join_45 rfl rfl ?_
      refine x_imul 46 d_M_join_46 ?_
      refine x_iloadn 47 3 d_M_join_47 rfl rfl ?_
      refine x_iadd 48 d_M_join_48 ?_
      replace h := gb1_elim h; obtain ⟨v18, h19, h⟩ := h
      refine x_zald 49 rfl h19 d_M_join_49 ?_
      refine x_if_ne 50 68 d_M_join_50 (by decide) (fun c20 => ?_) (fun c20 => ?_)
      · replace h := gif_t h c20
        refine x_aloadn 53 0 d_M_join_53 rfl rfl ?_
        replace h := gb1_elim h; obtain ⟨v21, h22, h⟩ := h
        refine x_getR 54 h22 fl_M_33 d_M_join_54 ?_
        refine x_sipush 57 d_M_join_57 (v := (200 : Int32)) (by decide +kernel) ?_
        refine x_iloadn 60 2 d_M_join_60 rfl rfl ?_
        refine x_imul 61 d_M_join_61 ?_
        refine x_iloadn 62 3 d_M_join_62 rfl rfl ?_
        refine x_iadd 63 d_M_join_63 ?_
        replace h := gb1_elim h; obtain ⟨v23, h24, h⟩ := h
        refine x_zald 64 rfl h24 d_M_join_64 ?_
        refine x_if_eq 65 72 d_M_join_65 (by decide) (fun c25 => ?_) (fun c25 => ?_)
        · replace h := gif_t h c25
          refine x_iconst 72 d_M_join_72 (v := (0 : Int32)) (by decide +kernel) ?_
          replace h := gb1_elim h; obtain ⟨mm26, h27, h⟩ := h
          refine x_zast 73 (by decide) (by decide) rfl h27 d_M_join_73 ?_
          replace h := gLet_elim h; obtain ⟨x28, ex28, h⟩ := h
          refine x_iinc 74 3 (v := x28) (lv' := [(3, .inl x28), (0, .inr (.inr p0)), (1, .inl p1), (2, .inl p2)]) d_M_join_74 rfl (by rw [ex28]; rfl) (by decide) rfl ?_
          refine x_goto 77 20 d_M_join_77 (by decide) ?_
          refine x_sub [1, 2, 3, 0] rfl ?_
          exact ih _ _ _ _ _ h
        · replace h := gif_f h c25
          refine x_iconst 68 d_M_join_68 (v := (1 : Int32)) (by decide +kernel) ?_
          refine x_goto 69 73 d_M_join_69 (by decide) ?_
          replace h := gb1_elim h; obtain ⟨mm29, h30, h⟩ := h
          refine x_zast 73 (by decide) (by decide) rfl h30 d_M_join_73 ?_
          replace h := gLet_elim h; obtain ⟨x31, ex31, h⟩ := h
          refine x_iinc 74 3 (v := x31) (lv' := [(3, .inl x31), (0, .inr (.inr p0)), (1, .inl p1), (2, .inl p2)]) d_M_join_74 rfl (by rw [ex31]; rfl) (by decide) rfl ?_
          refine x_goto 77 20 d_M_join_77 (by decide) ?_
          refine x_sub [1, 2, 3, 0] rfl ?_
          exact ih _ _ _ _ _ h
      · replace h := gif_f h c20
        refine x_iconst 68 d_M_join_68 (v := (1 : Int32)) (by decide +kernel) ?_
        refine x_goto 69 73 d_M_join_69 (by decide) ?_
        replace h := gb1_elim h; obtain ⟨mm32, h33, h⟩ := h
        refine x_zast 73 (by decide) (by decide) rfl h33 d_M_join_73 ?_
        replace h := gLet_elim h; obtain ⟨x34, ex34, h⟩ := h
        refine x_iinc 74 3 (v := x34) (lv' := [(3, .inl x34), (0, .inr (.inr p0)), (1, .inl p1), (2, .inl p2)]) d_M_join_74 rfl (by rw [ex34]; rfl) (by decide) rfl ?_
        refine x_goto 77 20 d_M_join_77 (by decide) ?_
        refine x_sub [1, 2, 3, 0] rfl ?_
        exact ih _ _ _ _ _ h
def L_M_join_82 (k138 : Option Nat → Int32 → gM → Option (Int32 × gM)) : Nat → Option Nat → Int32 → Int32 → Int32 → gM → Option (Int32 × gM)
  | 0, _, _, _, _, _ => none
  | f + 1, p0, p1, p2, p3, mm =>
    if (40 : Int32) ≤ p3 then (
      k138 p0 p1 mm)
    else (
      gb1 (gfR 10 11 p0 mm) fun v36 =>
      gb1 (gfR 10 11 p0 mm) fun v38 =>
      gb1 (gaI 2 v38 (((40 : Int32) * p1) + p3) mm) fun v40 =>
      if v40 = 0 then (
        gb1 (gfR 10 11 p0 mm) fun v43 =>
        gb1 (gaI 2 v43 (((40 : Int32) * p2) + p3) mm) fun v45 =>
        if v45 = 0 then (
          gb1 (gsI 2 v36 (((40 : Int32) * p1) + p3) (0 : Int32) mm) fun mm48 =>
          gLet (p3 + 1) fun x50 =>
          L_M_join_82 k138 f p0 p1 p2 x50 mm48)
        else (
          gb1 (gsI 2 v36 (((40 : Int32) * p1) + p3) (1 : Int32) mm) fun mm51 =>
          gLet (p3 + 1) fun x53 =>
          L_M_join_82 k138 f p0 p1 p2 x53 mm51))
      else (
        gb1 (gsI 2 v36 (((40 : Int32) * p1) + p3) (1 : Int32) mm) fun mm54 =>
        gLet (p3 + 1) fun x56 =>
        L_M_join_82 k138 f p0 p1 p2 x56 mm54))
set_option maxHeartbeats 4000000 in
set_option maxRecDepth 100000 in
theorem wL_M_join_82 {l : Launch} {E : gD} {n0 s0 : Nat} {r : Int32} {res : gM} {k138 : Option Nat → Int32 → gM → Option (Int32 × gM)} (hk138 : ∀ (p0 : Option Nat) (p1 : Int32) (mm : gM), k138 p0 p1 mm = some (r, res) → xX l E Y_M_join n0 s0 (some (.int r)) res 138 [(0, .inr (.inr p0)), (1, .inl p1)] [] mm) : ∀ (f : Nat) (p0 : Option Nat) (p1 : Int32) (p2 : Int32) (p3 : Int32) (mm : gM), L_M_join_82 k138 f p0 p1 p2 p3 mm = some (r, res) → xX l E Y_M_join n0 s0 (some (.int r)) res 82 [(0, .inr (.inr p0)), (1, .inl p1), (2, .inl p2), (3, .inl p3)] [] mm := by
  intro f
  induction f with
  | zero =>
    intro p0 p1 p2 p3 mm h
    rw [L_M_join_82] at h
    cases h
  | succ f ih =>
    intro p0 p1 p2 p3 mm h
    rw [L_M_join_82] at h
    refine x_iloadn 82 3 d_M_join_82 rfl rfl ?_
    refine x_bipush 83 d_M_join_83 (v := (40 : Int32)) (by decide +kernel) ?_
    refine x_icmp_ge 85 138 d_M_join_85 (by decide) (fun c35 => ?_) (fun c35 => ?_)
    · replace h := gif_t h c35
      refine x_sub [0, 1] rfl ?_
      exact hk138 _ _ _ h
    · replace h := gif_f h c35
      refine x_aloadn 88 0 d_M_join_88 rfl rfl ?_
      replace h := gb1_elim h; obtain ⟨v36, h37, h⟩ := h
      refine x_getR 89 h37 fl_M_36 d_M_join_89 ?_
      refine x_bipush 92 d_M_join_92 (v := (40 : Int32)) (by decide +kernel) ?_
      refine x_iloadn 94 1 d_M_join_94 rfl rfl ?_
      refine x_imul 95 d_M_join_95 ?_
      refine x_iloadn 96 3 d_M_join_96 rfl rfl ?_
      refine x_iadd 97 d_M_join_97 ?_
      refine x_aloadn 98 0 d_M_join_98 rfl rfl ?_
      replace h := gb1_elim h; obtain ⟨v38, h39, h⟩ := h
      refine x_getR 99 h39 fl_M_36 d_M_join_99 ?_
      refine x_bipush 102 d_M_join_102 (v := (40 : Int32)) (by decide +kernel) ?_
      refine x_iloadn 104 1 d_M_join_104 rfl rfl ?_
      refine x_imul 105 d_M_join_105 ?_
      refine x_iloadn 106 3 d_M_join_106 rfl rfl ?_
      refine x_iadd 107 d_M_join_107 ?_
      replace h := gb1_elim h; obtain ⟨v40, h41, h⟩ := h
      refine x_zald 108 rfl h41 d_M_join_108 ?_
      refine x_if_ne 109 126 d_M_join_109 (by decide) (fun c42 => ?_) (fun c42 => ?_)
      · replace h := gif_t h c42
        refine x_aloadn 112 0 d_M_join_112 rfl rfl ?_
        replace h := gb1_elim h; obtain ⟨v43, h44, h⟩ := h
        refine x_getR 113 h44 fl_M_36 d_M_join_113 ?_
        refine x_bipush 116 d_M_join_116 (v := (40 : Int32)) (by decide +kernel) ?_
        refine x_iloadn 118 2 d_M_join_118 rfl rfl ?_
        refine x_imul 119 d_M_join_119 ?_
        refine x_iloadn 120 3 d_M_join_120 rfl rfl ?_
        refine x_iadd 121 d_M_join_121 ?_
        replace h := gb1_elim h; obtain ⟨v45, h46, h⟩ := h
        refine x_zald 122 rfl h46 d_M_join_122 ?_
        refine x_if_eq 123 130 d_M_join_123 (by decide) (fun c47 => ?_) (fun c47 => ?_)
        · replace h := gif_t h c47
          refine x_iconst 130 d_M_join_130 (v := (0 : Int32)) (by decide +kernel) ?_
          replace h := gb1_elim h; obtain ⟨mm48, h49, h⟩ := h
          refine x_zast 131 (by decide) (by decide) rfl h49 d_M_join_131 ?_
          replace h := gLet_elim h; obtain ⟨x50, ex50, h⟩ := h
          refine x_iinc 132 3 (v := x50) (lv' := [(3, .inl x50), (0, .inr (.inr p0)), (1, .inl p1), (2, .inl p2)]) d_M_join_132 rfl (by rw [ex50]; rfl) (by decide) rfl ?_
          refine x_goto 135 82 d_M_join_135 (by decide) ?_
          refine x_sub [1, 2, 3, 0] rfl ?_
          exact ih _ _ _ _ _ h
        · replace h := gif_f h c47
          refine x_iconst 126 d_M_join_126 (v := (1 : Int32)) (by decide +kernel) ?_
          refine x_goto 127 131 d_M_join_127 (by decide) ?_
          replace h := gb1_elim h; obtain ⟨mm51, h52, h⟩ := h
          refine x_zast 131 (by decide) (by decide) rfl h52 d_M_join_131 ?_
          replace h := gLet_elim h; obtain ⟨x53, ex53, h⟩ := h
          refine x_iinc 132 3 (v := x53) (lv' := [(3, .inl x53), (0, .inr (.inr p0)), (1, .inl p1), (2, .inl p2)]) d_M_join_132 rfl (by rw [ex53]; rfl) (by decide) rfl ?_
          refine x_goto 135 82 d_M_join_135 (by decide) ?_
          refine x_sub [1, 2, 3, 0] rfl ?_
          exact ih _ _ _ _ _ h
      · replace h := gif_f h c42
        refine x_iconst 126 d_M_join_126 (v := (1 : Int32)) (by decide +kernel) ?_
        refine x_goto 127 131 d_M_join_127 (by decide) ?_
        replace h := gb1_elim h; obtain ⟨mm54, h55, h⟩ := h
        refine x_zast 131 (by decide) (by decide) rfl h55 d_M_join_131 ?_
        replace h := gLet_elim h; obtain ⟨x56, ex56, h⟩ := h
        refine x_iinc 132 3 (v := x56) (lv' := [(3, .inl x56), (0, .inr (.inr p0)), (1, .inl p1), (2, .inl p2)]) d_M_join_132 rfl (by rw [ex56]; rfl) (by decide) rfl ?_
        refine x_goto 135 82 d_M_join_135 (by decide) ?_
        refine x_sub [1, 2, 3, 0] rfl ?_
        exact ih _ _ _ _ _ h
def L_M_join_143 (k183 : Int32 → gM → Option (Int32 × gM)) : Nat → Option Nat → Int32 → Int32 → Int32 → gM → Option (Int32 × gM)
  | 0, _, _, _, _, _ => none
  | f + 1, p0, p1, p3, p4, mm =>
    if (128 : Int32) ≤ p4 then (
      k183 p3 mm)
    else (
      gb1 (grc 10 p0 mm) fun b63 =>
      gb2 (F_M_isConflict b63 p1 (p4 / (8 : Int32)) (p4 - p4 / (8 : Int32) * (8 : Int32)) mm) fun v60 mm61 =>
      if v60 = 0 then (
        gLet (p3 + (0 : Int32)) fun x66 =>
        gLet (p4 + 1) fun x67 =>
        L_M_join_143 k183 f p0 p1 x66 x67 mm61)
      else (
        gLet (p3 + (1 : Int32)) fun x68 =>
        gLet (p4 + 1) fun x69 =>
        L_M_join_143 k183 f p0 p1 x68 x69 mm61))
set_option maxHeartbeats 4000000 in
set_option maxRecDepth 100000 in
theorem wL_M_join_143 {l : Launch} {E : gD} {n0 s0 : Nat} {r : Int32} {res : gM} {k183 : Int32 → gM → Option (Int32 × gM)} (hk183 : ∀ (p3 : Int32) (mm : gM), k183 p3 mm = some (r, res) → xX l E Y_M_join n0 s0 (some (.int r)) res 183 [(3, .inl p3)] [] mm) : ∀ (f : Nat) (p0 : Option Nat) (p1 : Int32) (p3 : Int32) (p4 : Int32) (mm : gM), L_M_join_143 k183 f p0 p1 p3 p4 mm = some (r, res) → xX l E Y_M_join n0 s0 (some (.int r)) res 143 [(0, .inr (.inr p0)), (1, .inl p1), (3, .inl p3), (4, .inl p4)] [] mm := by
  intro f
  induction f with
  | zero =>
    intro p0 p1 p3 p4 mm h
    rw [L_M_join_143] at h
    cases h
  | succ f ih =>
    intro p0 p1 p3 p4 mm h
    rw [L_M_join_143] at h
    refine x_iload 143 3 d_M_join_143 rfl ?_
    refine x_sipush 145 d_M_join_145 (v := (128 : Int32)) (by decide +kernel) ?_
    refine x_icmp_ge 148 183 d_M_join_148 (by decide) (fun c57 => ?_) (fun c57 => ?_)
    · replace h := gif_t h c57
      refine x_sub [2] rfl ?_
      exact hk183 _ _ h
    · replace h := gif_f h c57
      refine x_iloadn 151 2 d_M_join_151 rfl rfl ?_
      refine x_aloadn 152 0 d_M_join_152 rfl rfl ?_
      refine x_iloadn 153 1 d_M_join_153 rfl rfl ?_
      refine x_iload 154 3 d_M_join_154 rfl ?_
      refine x_bipush 156 d_M_join_156 (v := (8 : Int32)) (by decide +kernel) ?_
      refine x_idiv 158 (by decide) d_M_join_158 ?_
      refine x_iload 159 3 d_M_join_159 rfl ?_
      refine x_bipush 161 d_M_join_161 (v := (8 : Int32)) (by decide +kernel) ?_
      refine x_irem 163 (by decide) d_M_join_163 ?_
      replace h := gb1_elim h; obtain ⟨b63, h64, h⟩ := h
      replace h := gb2_elim h; obtain ⟨v60, mm61, h62, h⟩ := h
      refine x_callV 164 3 (as := [.inl p1, .inl (p4 / (8 : Int32)), .inl (p4 - p4 / (8 : Int32) * (8 : Int32))]) (st' := [.inl p3]) (rs := [.inl v60]) (k_M_isConflict h62) rfl cf_M_141 ⟨rfl, by decide +kernel, by decide, by decide, Nat.le_of_ble_eq_true rfl⟩ h64 rfl d_M_join_164 ?_
      refine x_if_eq 167 174 d_M_join_167 (by decide) (fun c65 => ?_) (fun c65 => ?_)
      · replace h := gif_t h c65
        refine x_iconst 174 d_M_join_174 (v := (0 : Int32)) (by decide +kernel) ?_
        refine x_iadd 175 d_M_join_175 ?_
        replace h := gLet_elim h; obtain ⟨x66, ex66, h⟩ := h
        refine x_topi ex66 ?_
        refine x_istoren 176 (lv' := [(3, .inl x66), (0, .inr (.inr p0)), (1, .inl p1), (4, .inl p4)]) d_M_join_176 rfl (by decide) rfl ?_
        replace h := gLet_elim h; obtain ⟨x67, ex67, h⟩ := h
        refine x_iinc 177 3 (v := x67) (lv' := [(4, .inl x67), (3, .inl x66), (0, .inr (.inr p0)), (1, .inl p1)]) d_M_join_177 rfl (by rw [ex67]; rfl) (by decide) rfl ?_
        refine x_goto 180 143 d_M_join_180 (by decide) ?_
        refine x_sub [2, 3, 1, 0] rfl ?_
        exact ih _ _ _ _ _ h
      · replace h := gif_f h c65
        refine x_iconst 170 d_M_join_170 (v := (1 : Int32)) (by decide +kernel) ?_
        refine x_goto 171 175 d_M_join_171 (by decide) ?_
        refine x_iadd 175 d_M_join_175 ?_
        replace h := gLet_elim h; obtain ⟨x68, ex68, h⟩ := h
        refine x_topi ex68 ?_
        refine x_istoren 176 (lv' := [(3, .inl x68), (0, .inr (.inr p0)), (1, .inl p1), (4, .inl p4)]) d_M_join_176 rfl (by decide) rfl ?_
        replace h := gLet_elim h; obtain ⟨x69, ex69, h⟩ := h
        refine x_iinc 177 3 (v := x69) (lv' := [(4, .inl x69), (3, .inl x68), (0, .inr (.inr p0)), (1, .inl p1)]) d_M_join_177 rfl (by rw [ex69]; rfl) (by decide) rfl ?_
        refine x_goto 180 143 d_M_join_180 (by decide) ?_
        refine x_sub [2, 3, 1, 0] rfl ?_
        exact ih _ _ _ _ _ h
def F_M_join (b : Nat) (a0 : Int32) (a1 : Int32) (mm : gM) : Option (Int32 × gM) :=
  gb1 (grc 10 (some b) mm) fun b4 =>
  gb2 (F_M_isSet b4 a0 mm) fun v1 mm2 =>
  if v1 = 0 then (
    some ((-1 : Int32), mm2))
  else (
    gb1 (grc 10 (some b) mm2) fun b10 =>
    gb2 (F_M_isSet b10 a1 mm2) fun v7 mm8 =>
    if v7 = 0 then (
      some ((-1 : Int32), mm8))
    else (
      L_M_join_20 (fun p0 p1 p2 mm =>
        L_M_join_82 (fun p0 p1 mm =>
          L_M_join_143 (fun p3 mm =>
            some (p3, mm)) gF p0 p1 (0 : Int32) (0 : Int32) mm) gF p0 p1 p2 (0 : Int32) mm) gF (some b) a0 a1 (0 : Int32) mm8))
set_option maxHeartbeats 8000000 in
set_option maxRecDepth 100000 in
theorem w_M_join {l : Launch} {E : gD} {n0 s0 : Nat} {b : Nat} {a0 : Int32} {a1 : Int32} {r : Int32} {mm res : gM} (h : F_M_join b a0 a1 mm = some (r, res)) : xX l E Y_M_join n0 s0 (some (.int r)) res 0 [(0, .inr (.inr (some b))), (1, .inl a0), (2, .inl a1)] [] mm := by
  unfold F_M_join at h
  refine x_aloadn 0 0 d_M_join_0 rfl rfl ?_
  refine x_iloadn 1 1 d_M_join_1 rfl rfl ?_
  replace h := gb1_elim h; obtain ⟨b4, h5, h⟩ := h
  replace h := gb2_elim h; obtain ⟨v1, mm2, h3, h⟩ := h
  refine x_callV 2 1 (as := [.inl a0]) (st' := []) (rs := [.inl v1]) (k_M_isSet h3) rfl cf_M_133 ⟨rfl, by decide +kernel, by decide, by decide, Nat.le_of_ble_eq_true rfl⟩ h5 rfl d_M_join_2 ?_
  refine x_if_eq 5 16 d_M_join_5 (by decide) (fun c6 => ?_) (fun c6 => ?_)
  · replace h := gif_t h c6
    refine x_iconst 16 d_M_join_16 (v := (-1 : Int32)) (by decide +kernel) ?_
    cases h
    exact x_ireturn 17 rfl d_M_join_17
  · replace h := gif_f h c6
    refine x_aloadn 8 0 d_M_join_8 rfl rfl ?_
    refine x_iloadn 9 2 d_M_join_9 rfl rfl ?_
    replace h := gb1_elim h; obtain ⟨b10, h11, h⟩ := h
    replace h := gb2_elim h; obtain ⟨v7, mm8, h9, h⟩ := h
    refine x_callV 10 1 (as := [.inl a1]) (st' := []) (rs := [.inl v7]) (k_M_isSet h9) rfl cf_M_133 ⟨rfl, by decide +kernel, by decide, by decide, Nat.le_of_ble_eq_true rfl⟩ h11 rfl d_M_join_10 ?_
    refine x_if_ne 13 18 d_M_join_13 (by decide) (fun c12 => ?_) (fun c12 => ?_)
    · replace h := gif_t h c12
      refine x_iconst 16 d_M_join_16 (v := (-1 : Int32)) (by decide +kernel) ?_
      cases h
      exact x_ireturn 17 rfl d_M_join_17
    · replace h := gif_f h c12
      refine x_iconst 18 d_M_join_18 (v := (0 : Int32)) (by decide +kernel) ?_
      refine x_istoren 19 (lv' := [(3, .inl (0 : Int32)), (0, .inr (.inr (some b))), (1, .inl a0), (2, .inl a1)]) d_M_join_19 rfl (by decide) rfl ?_
      refine x_sub [1, 2, 3, 0] rfl ?_
      refine wL_M_join_20 ?_ gF _ _ _ _ _ h
      · intro p0 p1 p2 mm h
        refine x_iconst 80 d_M_join_80 (v := (0 : Int32)) (by decide +kernel) ?_
        refine x_istoren 81 (lv' := [(3, .inl (0 : Int32)), (0, .inr (.inr p0)), (1, .inl p1), (2, .inl p2)]) d_M_join_81 rfl (by decide) rfl ?_
        refine x_sub [1, 2, 3, 0] rfl ?_
        refine wL_M_join_82 ?_ gF _ _ _ _ _ h
        · intro p0 p1 mm h
          refine x_iconst 138 d_M_join_138 (v := (0 : Int32)) (by decide +kernel) ?_
          refine x_istoren 139 (lv' := [(3, .inl (0 : Int32)), (0, .inr (.inr p0)), (1, .inl p1)]) d_M_join_139 rfl (by decide) rfl ?_
          refine x_iconst 140 d_M_join_140 (v := (0 : Int32)) (by decide +kernel) ?_
          refine x_istore 141 (lv' := [(4, .inl (0 : Int32)), (3, .inl (0 : Int32)), (0, .inr (.inr p0)), (1, .inl p1)]) d_M_join_141 (by decide) rfl ?_
          refine x_sub [2, 3, 1, 0] rfl ?_
          refine wL_M_join_143 ?_ gF _ _ _ _ _ h
          · intro p3 mm h
            refine x_iloadn 183 0 d_M_join_183 rfl rfl ?_
            cases h
            exact x_ireturn 184 rfl d_M_join_184
theorem k_M_join {b : Nat} {a0 : Int32} {a1 : Int32} {r : Int32} {mm res : gM} (h : F_M_join b a0 a1 mm = some (r, res)) : ∀ (l : Launch) (E : gD), gLe mm res ∧ gMet l E Y_M_join y_M_join [.inr (.inr (some b)), .inl a0, .inl a1] (some (.int r)) mm res :=
  fun l E => ⟨(w_M_join (l := l) (E := E) (n0 := 0) (s0 := 0) h).1, x_met (by decide +kernel) rfl rfl rfl (Nat.le_of_ble_eq_true rfl) (w_M_join h)⟩
theorem d_Holding_isSameAs_0 : decode b_Holding_isSameAs 0 = .ok (.iconst 0, 1) := by decide +kernel
theorem d_Holding_isSameAs_1 : decode b_Holding_isSameAs 1 = .ok (.istore_n 2, 1) := by decide +kernel
theorem d_Holding_isSameAs_2 : decode b_Holding_isSameAs 2 = .ok (.iload_n 2, 1) := by decide +kernel
theorem d_Holding_isSameAs_3 : decode b_Holding_isSameAs 3 = .ok (.bipush 8, 2) := by decide +kernel
theorem d_Holding_isSameAs_5 : decode b_Holding_isSameAs 5 = .ok (.if_icmp .ge 26, 3) := by decide +kernel
theorem d_Holding_isSameAs_8 : decode b_Holding_isSameAs 8 = .ok (.aload_n 0, 1) := by decide +kernel
theorem d_Holding_isSameAs_9 : decode b_Holding_isSameAs 9 = .ok (.getfield 9, 3) := by decide +kernel
theorem d_Holding_isSameAs_12 : decode b_Holding_isSameAs 12 = .ok (.iload_n 2, 1) := by decide +kernel
theorem d_Holding_isSameAs_13 : decode b_Holding_isSameAs 13 = .ok (.iaload, 1) := by decide +kernel
theorem d_Holding_isSameAs_14 : decode b_Holding_isSameAs 14 = .ok (.aload_n 1, 1) := by decide +kernel
theorem d_Holding_isSameAs_15 : decode b_Holding_isSameAs 15 = .ok (.getfield 9, 3) := by decide +kernel
theorem d_Holding_isSameAs_18 : decode b_Holding_isSameAs 18 = .ok (.iload_n 2, 1) := by decide +kernel
theorem d_Holding_isSameAs_19 : decode b_Holding_isSameAs 19 = .ok (.iaload, 1) := by decide +kernel
theorem d_Holding_isSameAs_20 : decode b_Holding_isSameAs 20 = .ok (.if_icmp .eq 5, 3) := by decide +kernel
theorem d_Holding_isSameAs_23 : decode b_Holding_isSameAs 23 = .ok (.iconst 0, 1) := by decide +kernel
theorem d_Holding_isSameAs_24 : decode b_Holding_isSameAs 24 = .ok (.ireturn, 1) := by decide +kernel
theorem d_Holding_isSameAs_25 : decode b_Holding_isSameAs 25 = .ok (.iinc 2 1, 3) := by decide +kernel
theorem d_Holding_isSameAs_28 : decode b_Holding_isSameAs 28 = .ok (.goto (-26), 3) := by decide +kernel
theorem d_Holding_isSameAs_31 : decode b_Holding_isSameAs 31 = .ok (.aload_n 0, 1) := by decide +kernel
theorem d_Holding_isSameAs_32 : decode b_Holding_isSameAs 32 = .ok (.getfield 15, 3) := by decide +kernel
theorem d_Holding_isSameAs_35 : decode b_Holding_isSameAs 35 = .ok (.aload_n 1, 1) := by decide +kernel
theorem d_Holding_isSameAs_36 : decode b_Holding_isSameAs 36 = .ok (.getfield 15, 3) := by decide +kernel
theorem d_Holding_isSameAs_39 : decode b_Holding_isSameAs 39 = .ok (.lcmp, 1) := by decide +kernel
theorem d_Holding_isSameAs_40 : decode b_Holding_isSameAs 40 = .ok (.ifCond .ne 7, 3) := by decide +kernel
theorem d_Holding_isSameAs_43 : decode b_Holding_isSameAs 43 = .ok (.iconst 1, 1) := by decide +kernel
theorem d_Holding_isSameAs_44 : decode b_Holding_isSameAs 44 = .ok (.goto 4, 3) := by decide +kernel
theorem d_Holding_isSameAs_47 : decode b_Holding_isSameAs 47 = .ok (.iconst 0, 1) := by decide +kernel
theorem d_Holding_isSameAs_48 : decode b_Holding_isSameAs 48 = .ok (.ireturn, 1) := by decide +kernel
def L_Holding_isSameAs_2 (k23 : gM → Option (Int32 × gM)) (k31 : Option Nat → Option Nat → gM → Option (Int32 × gM)) : Nat → Option Nat → Option Nat → Int32 → gM → Option (Int32 × gM)
  | 0, _, _, _, _ => none
  | f + 1, p0, p1, p2, mm =>
    if (8 : Int32) ≤ p2 then (
      k31 p0 p1 mm)
    else (
      gb1 (gfR 5 0 p0 mm) fun v2 =>
      gb1 (gaI 0 v2 p2 mm) fun v4 =>
      gb1 (gfR 5 0 p1 mm) fun v6 =>
      gb1 (gaI 0 v6 p2 mm) fun v8 =>
      if v4 = v8 then (
        gLet (p2 + 1) fun x11 =>
        L_Holding_isSameAs_2 k23 k31 f p0 p1 x11 mm)
      else (
        k23  mm))
set_option maxHeartbeats 4000000 in
set_option maxRecDepth 100000 in
theorem wL_Holding_isSameAs_2 {l : Launch} {E : gD} {n0 s0 : Nat} {r : Int32} {res : gM} {k23 : gM → Option (Int32 × gM)} {k31 : Option Nat → Option Nat → gM → Option (Int32 × gM)} (hk23 : ∀  (mm : gM), k23  mm = some (r, res) → xX l E Y_Holding_isSameAs n0 s0 (some (.int r)) res 23 [] [] mm) (hk31 : ∀ (p0 : Option Nat) (p1 : Option Nat) (mm : gM), k31 p0 p1 mm = some (r, res) → xX l E Y_Holding_isSameAs n0 s0 (some (.int r)) res 31 [(0, .inr (.inr p0)), (1, .inr (.inr p1))] [] mm) : ∀ (f : Nat) (p0 : Option Nat) (p1 : Option Nat) (p2 : Int32) (mm : gM), L_Holding_isSameAs_2 k23 k31 f p0 p1 p2 mm = some (r, res) → xX l E Y_Holding_isSameAs n0 s0 (some (.int r)) res 2 [(0, .inr (.inr p0)), (1, .inr (.inr p1)), (2, .inl p2)] [] mm := by
  intro f
  induction f with
  | zero =>
    intro p0 p1 p2 mm h
    rw [L_Holding_isSameAs_2] at h
    cases h
  | succ f ih =>
    intro p0 p1 p2 mm h
    rw [L_Holding_isSameAs_2] at h
    refine x_iloadn 2 2 d_Holding_isSameAs_2 rfl rfl ?_
    refine x_bipush 3 d_Holding_isSameAs_3 (v := (8 : Int32)) (by decide +kernel) ?_
    refine x_icmp_ge 5 31 d_Holding_isSameAs_5 (by decide) (fun c1 => ?_) (fun c1 => ?_)
    · replace h := gif_t h c1
      refine x_sub [0, 1] rfl ?_
      exact hk31 _ _ _ h
    · replace h := gif_f h c1
      refine x_aloadn 8 0 d_Holding_isSameAs_8 rfl rfl ?_
      replace h := gb1_elim h; obtain ⟨v2, h3, h⟩ := h
      refine x_getR 9 h3 fl_Holding_9 d_Holding_isSameAs_9 ?_
      refine x_iloadn 12 2 d_Holding_isSameAs_12 rfl rfl ?_
      replace h := gb1_elim h; obtain ⟨v4, h5, h⟩ := h
      refine x_iald 13 rfl h5 d_Holding_isSameAs_13 ?_
      refine x_aloadn 14 1 d_Holding_isSameAs_14 rfl rfl ?_
      replace h := gb1_elim h; obtain ⟨v6, h7, h⟩ := h
      refine x_getR 15 h7 fl_Holding_9 d_Holding_isSameAs_15 ?_
      refine x_iloadn 18 2 d_Holding_isSameAs_18 rfl rfl ?_
      replace h := gb1_elim h; obtain ⟨v8, h9, h⟩ := h
      refine x_iald 19 rfl h9 d_Holding_isSameAs_19 ?_
      refine x_icmp_eq 20 25 d_Holding_isSameAs_20 (by decide) (fun c10 => ?_) (fun c10 => ?_)
      · replace h := gif_t h c10
        replace h := gLet_elim h; obtain ⟨x11, ex11, h⟩ := h
        refine x_iinc 25 2 (v := x11) (lv' := [(2, .inl x11), (0, .inr (.inr p0)), (1, .inr (.inr p1))]) d_Holding_isSameAs_25 rfl (by rw [ex11]; rfl) (by decide) rfl ?_
        refine x_goto 28 2 d_Holding_isSameAs_28 (by decide) ?_
        refine x_sub [1, 2, 0] rfl ?_
        exact ih _ _ _ _ h
      · replace h := gif_f h c10
        refine x_sub [] rfl ?_
        exact hk23 _ h
def F_Holding_isSameAs (b : Nat) (a0 : Option Nat) (mm : gM) : Option (Int32 × gM) :=
  L_Holding_isSameAs_2 (fun  mm =>
    some ((0 : Int32), mm)) (fun p0 p1 mm =>
    gb1 (gfL 5 1 p0 mm) fun v12 =>
    gb1 (gfL 5 1 p1 mm) fun v14 =>
    if v12 = v14 then (
      some ((1 : Int32), mm))
    else (
      some ((0 : Int32), mm))) gF (some b) a0 (0 : Int32) mm
set_option maxHeartbeats 8000000 in
set_option maxRecDepth 100000 in
theorem w_Holding_isSameAs {l : Launch} {E : gD} {n0 s0 : Nat} {b : Nat} {a0 : Option Nat} {r : Int32} {mm res : gM} (h : F_Holding_isSameAs b a0 mm = some (r, res)) : xX l E Y_Holding_isSameAs n0 s0 (some (.int r)) res 0 [(0, .inr (.inr (some b))), (1, .inr (.inr a0))] [] mm := by
  unfold F_Holding_isSameAs at h
  refine x_iconst 0 d_Holding_isSameAs_0 (v := (0 : Int32)) (by decide +kernel) ?_
  refine x_istoren 1 (lv' := [(2, .inl (0 : Int32)), (0, .inr (.inr (some b))), (1, .inr (.inr a0))]) d_Holding_isSameAs_1 rfl (by decide) rfl ?_
  refine x_sub [1, 2, 0] rfl ?_
  refine wL_Holding_isSameAs_2 ?_ ?_ gF _ _ _ _ h
  · intro  mm h
    refine x_iconst 23 d_Holding_isSameAs_23 (v := (0 : Int32)) (by decide +kernel) ?_
    cases h
    exact x_zreturn 24 (by decide) rfl d_Holding_isSameAs_24
  · intro p0 p1 mm h
    refine x_aloadn 31 0 d_Holding_isSameAs_31 rfl rfl ?_
    replace h := gb1_elim h; obtain ⟨v12, h13, h⟩ := h
    refine x_getL 32 h13 fl_Holding_15 d_Holding_isSameAs_32 ?_
    refine x_aloadn 35 1 d_Holding_isSameAs_35 rfl rfl ?_
    replace h := gb1_elim h; obtain ⟨v14, h15, h⟩ := h
    refine x_getL 36 h15 fl_Holding_15 d_Holding_isSameAs_36 ?_
    refine x_lc_ne 39 47 d_Holding_isSameAs_39 d_Holding_isSameAs_40 (by decide) (fun c16 => ?_) (fun c16 => ?_)
    · replace h := gif_t h c16
      refine x_iconst 43 d_Holding_isSameAs_43 (v := (1 : Int32)) (by decide +kernel) ?_
      refine x_goto 44 48 d_Holding_isSameAs_44 (by decide) ?_
      cases h
      exact x_zreturn 48 (by decide) rfl d_Holding_isSameAs_48
    · replace h := gif_f h c16
      refine x_iconst 47 d_Holding_isSameAs_47 (v := (0 : Int32)) (by decide +kernel) ?_
      cases h
      exact x_zreturn 48 (by decide) rfl d_Holding_isSameAs_48
theorem k_Holding_isSameAs {b : Nat} {a0 : Option Nat} {r : Int32} {mm res : gM} (h : F_Holding_isSameAs b a0 mm = some (r, res)) : ∀ (l : Launch) (E : gD), gLe mm res ∧ gMet l E Y_Holding_isSameAs y_Holding_isSameAs [.inr (.inr (some b)), .inr (.inr a0)] (some (.int r)) mm res :=
  fun l E => ⟨(w_Holding_isSameAs (l := l) (E := E) (n0 := 0) (s0 := 0) h).1, x_met (by decide +kernel) rfl rfl rfl (Nat.le_of_ble_eq_true rfl) (w_Holding_isSameAs h)⟩
theorem d_S_equal_0 : decode b_S_equal 0 = .ok (.aload_n 0, 1) := by decide +kernel
theorem d_S_equal_1 : decode b_S_equal 1 = .ok (.iload_n 1, 1) := by decide +kernel
theorem d_S_equal_2 : decode b_S_equal 2 = .ok (.invokevirtual 110, 3) := by decide +kernel
theorem d_S_equal_5 : decode b_S_equal 5 = .ok (.astore_n 3, 1) := by decide +kernel
theorem d_S_equal_6 : decode b_S_equal 6 = .ok (.aload_n 0, 1) := by decide +kernel
theorem d_S_equal_7 : decode b_S_equal 7 = .ok (.iload_n 2, 1) := by decide +kernel
theorem d_S_equal_8 : decode b_S_equal 8 = .ok (.invokevirtual 110, 3) := by decide +kernel
theorem d_S_equal_11 : decode b_S_equal 11 = .ok (.astore 4, 2) := by decide +kernel
theorem d_S_equal_13 : decode b_S_equal 13 = .ok (.aload_n 3, 1) := by decide +kernel
theorem d_S_equal_14 : decode b_S_equal 14 = .ok (.ifnull 27, 3) := by decide +kernel
theorem d_S_equal_17 : decode b_S_equal 17 = .ok (.aload 4, 2) := by decide +kernel
theorem d_S_equal_19 : decode b_S_equal 19 = .ok (.ifnull 22, 3) := by decide +kernel
theorem d_S_equal_22 : decode b_S_equal 22 = .ok (.aload_n 3, 1) := by decide +kernel
theorem d_S_equal_23 : decode b_S_equal 23 = .ok (.getfield 100, 3) := by decide +kernel
theorem d_S_equal_26 : decode b_S_equal 26 = .ok (.aload 4, 2) := by decide +kernel
theorem d_S_equal_28 : decode b_S_equal 28 = .ok (.getfield 100, 3) := by decide +kernel
theorem d_S_equal_31 : decode b_S_equal 31 = .ok (.invokevirtual 122, 3) := by decide +kernel
theorem d_S_equal_34 : decode b_S_equal 34 = .ok (.ifCond .eq 7, 3) := by decide +kernel
theorem d_S_equal_37 : decode b_S_equal 37 = .ok (.iconst 1, 1) := by decide +kernel
theorem d_S_equal_38 : decode b_S_equal 38 = .ok (.goto 4, 3) := by decide +kernel
theorem d_S_equal_41 : decode b_S_equal 41 = .ok (.iconst 0, 1) := by decide +kernel
theorem d_S_equal_42 : decode b_S_equal 42 = .ok (.ireturn, 1) := by decide +kernel
def F_S_equal (b : Nat) (a0 : Int32) (a1 : Int32) (mm : gM) : Option (Int32 × gM) :=
  gb1 (grc 0 (some b) mm) fun b4 =>
  gb2 (F_S_setAt b4 a0 mm) fun v1 mm2 =>
  gb1 (grc 0 (some b) mm2) fun b9 =>
  gb2 (F_S_setAt b9 a1 mm2) fun v6 mm7 =>
  if v1 = none then (
    some ((0 : Int32), mm7))
  else (
    if v6 = none then (
      some ((0 : Int32), mm7))
    else (
      gb1 (gfR 4 0 v1 mm7) fun v13 =>
      gb1 (gfR 4 0 v6 mm7) fun v15 =>
      gb1 (grc 5 v13 mm7) fun b20 =>
      gb2 (F_Holding_isSameAs b20 v15 mm7) fun v17 mm18 =>
      if v17 = 0 then (
        some ((0 : Int32), mm18))
      else (
        some ((1 : Int32), mm18))))
set_option maxHeartbeats 8000000 in
set_option maxRecDepth 100000 in
theorem w_S_equal {l : Launch} {E : gD} {n0 s0 : Nat} {b : Nat} {a0 : Int32} {a1 : Int32} {r : Int32} {mm res : gM} (h : F_S_equal b a0 a1 mm = some (r, res)) : xX l E Y_S_equal n0 s0 (some (.int r)) res 0 [(0, .inr (.inr (some b))), (1, .inl a0), (2, .inl a1)] [] mm := by
  unfold F_S_equal at h
  refine x_aloadn 0 0 d_S_equal_0 rfl rfl ?_
  refine x_iloadn 1 1 d_S_equal_1 rfl rfl ?_
  replace h := gb1_elim h; obtain ⟨b4, h5, h⟩ := h
  replace h := gb2_elim h; obtain ⟨v1, mm2, h3, h⟩ := h
  refine x_callV 2 1 (as := [.inl a0]) (st' := []) (rs := [.inr (.inr v1)]) (k_S_setAt h3) rfl cf_S_110 ⟨rfl, by decide +kernel, by decide, by decide, Nat.le_of_ble_eq_true rfl⟩ h5 rfl d_S_equal_2 ?_
  refine x_astoren 5 (lv' := [(3, .inr (.inr v1)), (0, .inr (.inr (some b))), (1, .inl a0), (2, .inl a1)]) d_S_equal_5 rfl (by decide) rfl ?_
  refine x_aloadn 6 1 d_S_equal_6 rfl rfl ?_
  refine x_iloadn 7 3 d_S_equal_7 rfl rfl ?_
  replace h := gb1_elim h; obtain ⟨b9, h10, h⟩ := h
  replace h := gb2_elim h; obtain ⟨v6, mm7, h8, h⟩ := h
  refine x_callV 8 1 (as := [.inl a1]) (st' := []) (rs := [.inr (.inr v6)]) (k_S_setAt h8) rfl cf_S_110 ⟨rfl, by decide +kernel, by decide, by decide, Nat.le_of_ble_eq_true rfl⟩ h10 rfl d_S_equal_8 ?_
  refine x_astore 11 (lv' := [(4, .inr (.inr v6)), (3, .inr (.inr v1)), (0, .inr (.inr (some b))), (1, .inl a0), (2, .inl a1)]) d_S_equal_11 (by decide) rfl ?_
  refine x_aloadn 13 1 d_S_equal_13 rfl rfl ?_
  refine x_ifnull 14 41 d_S_equal_14 (by decide) (fun c11 => ?_) (fun c11 => ?_)
  · replace h := gif_t h c11
    refine x_iconst 41 d_S_equal_41 (v := (0 : Int32)) (by decide +kernel) ?_
    cases h
    exact x_zreturn 42 (by decide) rfl d_S_equal_42
  · replace h := gif_f h c11
    refine x_aload 17 0 d_S_equal_17 rfl ?_
    refine x_ifnull 19 41 d_S_equal_19 (by decide) (fun c12 => ?_) (fun c12 => ?_)
    · replace h := gif_t h c12
      refine x_iconst 41 d_S_equal_41 (v := (0 : Int32)) (by decide +kernel) ?_
      cases h
      exact x_zreturn 42 (by decide) rfl d_S_equal_42
    · replace h := gif_f h c12
      refine x_aloadn 22 1 d_S_equal_22 rfl rfl ?_
      replace h := gb1_elim h; obtain ⟨v13, h14, h⟩ := h
      refine x_getR 23 h14 fl_S_100 d_S_equal_23 ?_
      refine x_aload 26 0 d_S_equal_26 rfl ?_
      replace h := gb1_elim h; obtain ⟨v15, h16, h⟩ := h
      refine x_getR 28 h16 fl_S_100 d_S_equal_28 ?_
      replace h := gb1_elim h; obtain ⟨b20, h21, h⟩ := h
      replace h := gb2_elim h; obtain ⟨v17, mm18, h19, h⟩ := h
      refine x_callV 31 1 (as := [.inr (.inr v15)]) (st' := []) (rs := [.inl v17]) (k_Holding_isSameAs h19) rfl cf_S_122 ⟨rfl, by decide +kernel, by decide, by decide, Nat.le_of_ble_eq_true rfl⟩ h21 rfl d_S_equal_31 ?_
      refine x_if_eq 34 41 d_S_equal_34 (by decide) (fun c22 => ?_) (fun c22 => ?_)
      · replace h := gif_t h c22
        refine x_iconst 41 d_S_equal_41 (v := (0 : Int32)) (by decide +kernel) ?_
        cases h
        exact x_zreturn 42 (by decide) rfl d_S_equal_42
      · replace h := gif_f h c22
        refine x_iconst 37 d_S_equal_37 (v := (1 : Int32)) (by decide +kernel) ?_
        refine x_goto 38 42 d_S_equal_38 (by decide) ?_
        cases h
        exact x_zreturn 42 (by decide) rfl d_S_equal_42
theorem k_S_equal {b : Nat} {a0 : Int32} {a1 : Int32} {r : Int32} {mm res : gM} (h : F_S_equal b a0 a1 mm = some (r, res)) : ∀ (l : Launch) (E : gD), gLe mm res ∧ gMet l E Y_S_equal y_S_equal [.inr (.inr (some b)), .inl a0, .inl a1] (some (.int r)) mm res :=
  fun l E => ⟨(w_S_equal (l := l) (E := E) (n0 := 0) (s0 := 0) h).1, x_met (by decide +kernel) rfl rfl rfl (Nat.le_of_ble_eq_true rfl) (w_S_equal h)⟩
