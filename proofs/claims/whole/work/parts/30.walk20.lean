-- M_lost S_close M_close S_isSecond
theorem d_M_lost_0 : decode b_M_lost 0 = .ok (.aload_n 0, 1) := by decide +kernel
theorem d_M_lost_1 : decode b_M_lost 1 = .ok (.iload_n 1, 1) := by decide +kernel
theorem d_M_lost_2 : decode b_M_lost 2 = .ok (.invokevirtual 92, 3) := by decide +kernel
theorem d_M_lost_5 : decode b_M_lost 5 = .ok (.ifCond .eq 16, 3) := by decide +kernel
theorem d_M_lost_8 : decode b_M_lost 8 = .ok (.iload_n 2, 1) := by decide +kernel
theorem d_M_lost_9 : decode b_M_lost 9 = .ok (.ifCond .lt 12, 3) := by decide +kernel
theorem d_M_lost_12 : decode b_M_lost 12 = .ok (.iload_n 3, 1) := by decide +kernel
theorem d_M_lost_13 : decode b_M_lost 13 = .ok (.ifCond .lt 8, 3) := by decide +kernel
theorem d_M_lost_16 : decode b_M_lost 16 = .ok (.iload_n 3, 1) := by decide +kernel
theorem d_M_lost_17 : decode b_M_lost 17 = .ok (.iconst 1, 1) := by decide +kernel
theorem d_M_lost_18 : decode b_M_lost 18 = .ok (.if_icmp .le 5, 3) := by decide +kernel
theorem d_M_lost_21 : decode b_M_lost 21 = .ok (.iconst (-1), 1) := by decide +kernel
theorem d_M_lost_22 : decode b_M_lost 22 = .ok (.ireturn, 1) := by decide +kernel
theorem d_M_lost_23 : decode b_M_lost 23 = .ok (.iconst 0, 1) := by decide +kernel
theorem d_M_lost_24 : decode b_M_lost 24 = .ok (.istore 4, 2) := by decide +kernel
theorem d_M_lost_26 : decode b_M_lost 26 = .ok (.iconst 0, 1) := by decide +kernel
theorem d_M_lost_27 : decode b_M_lost 27 = .ok (.istore 5, 2) := by decide +kernel
theorem d_M_lost_29 : decode b_M_lost 29 = .ok (.iload 5, 2) := by decide +kernel
theorem d_M_lost_31 : decode b_M_lost 31 = .ok (.aload_n 0, 1) := by decide +kernel
theorem d_M_lost_32 : decode b_M_lost 32 = .ok (.getfield 89, 3) := by decide +kernel
theorem d_M_lost_35 : decode b_M_lost 35 = .ok (.if_icmp .ge 46, 3) := by decide +kernel
theorem d_M_lost_38 : decode b_M_lost 38 = .ok (.aload_n 0, 1) := by decide +kernel
theorem d_M_lost_39 : decode b_M_lost 39 = .ok (.getfield 13, 3) := by decide +kernel
theorem d_M_lost_42 : decode b_M_lost 42 = .ok (.iload 5, 2) := by decide +kernel
theorem d_M_lost_44 : decode b_M_lost 44 = .ok (.iaload, 1) := by decide +kernel
theorem d_M_lost_45 : decode b_M_lost 45 = .ok (.iload_n 1, 1) := by decide +kernel
theorem d_M_lost_46 : decode b_M_lost 46 = .ok (.if_icmp .ne 25, 3) := by decide +kernel
theorem d_M_lost_49 : decode b_M_lost 49 = .ok (.aload_n 0, 1) := by decide +kernel
theorem d_M_lost_50 : decode b_M_lost 50 = .ok (.getfield 17, 3) := by decide +kernel
theorem d_M_lost_53 : decode b_M_lost 53 = .ok (.iload 5, 2) := by decide +kernel
theorem d_M_lost_55 : decode b_M_lost 55 = .ok (.iaload, 1) := by decide +kernel
theorem d_M_lost_56 : decode b_M_lost 56 = .ok (.iload 4, 2) := by decide +kernel
theorem d_M_lost_58 : decode b_M_lost 58 = .ok (.if_icmp .le 13, 3) := by decide +kernel
theorem d_M_lost_61 : decode b_M_lost 61 = .ok (.aload_n 0, 1) := by decide +kernel
theorem d_M_lost_62 : decode b_M_lost 62 = .ok (.getfield 17, 3) := by decide +kernel
theorem d_M_lost_65 : decode b_M_lost 65 = .ok (.iload 5, 2) := by decide +kernel
theorem d_M_lost_67 : decode b_M_lost 67 = .ok (.iaload, 1) := by decide +kernel
theorem d_M_lost_68 : decode b_M_lost 68 = .ok (.goto 5, 3) := by decide +kernel
theorem d_M_lost_71 : decode b_M_lost 71 = .ok (.iload 4, 2) := by decide +kernel
theorem d_M_lost_73 : decode b_M_lost 73 = .ok (.istore 4, 2) := by decide +kernel
theorem d_M_lost_75 : decode b_M_lost 75 = .ok (.iinc 5 1, 3) := by decide +kernel
theorem d_M_lost_78 : decode b_M_lost 78 = .ok (.goto (-49), 3) := by decide +kernel
theorem d_M_lost_81 : decode b_M_lost 81 = .ok (.iconst 0, 1) := by decide +kernel
theorem d_M_lost_82 : decode b_M_lost 82 = .ok (.istore 5, 2) := by decide +kernel
theorem d_M_lost_84 : decode b_M_lost 84 = .ok (.iconst 0, 1) := by decide +kernel
theorem d_M_lost_85 : decode b_M_lost 85 = .ok (.istore 6, 2) := by decide +kernel
theorem d_M_lost_87 : decode b_M_lost 87 = .ok (.iconst 1, 1) := by decide +kernel
theorem d_M_lost_88 : decode b_M_lost 88 = .ok (.istore 7, 2) := by decide +kernel
theorem d_M_lost_90 : decode b_M_lost 90 = .ok (.iload 7, 2) := by decide +kernel
theorem d_M_lost_92 : decode b_M_lost 92 = .ok (.iload 4, 2) := by decide +kernel
theorem d_M_lost_94 : decode b_M_lost 94 = .ok (.if_icmp .gt 89, 3) := by decide +kernel
theorem d_M_lost_97 : decode b_M_lost 97 = .ok (.aload_n 0, 1) := by decide +kernel
theorem d_M_lost_98 : decode b_M_lost 98 = .ok (.iload_n 1, 1) := by decide +kernel
theorem d_M_lost_99 : decode b_M_lost 99 = .ok (.iload 7, 2) := by decide +kernel
theorem d_M_lost_101 : decode b_M_lost 101 = .ok (.invokevirtual 147, 3) := by decide +kernel
theorem d_M_lost_104 : decode b_M_lost 104 = .ok (.ifCond .ne 17, 3) := by decide +kernel
theorem d_M_lost_107 : decode b_M_lost 107 = .ok (.aload_n 0, 1) := by decide +kernel
theorem d_M_lost_108 : decode b_M_lost 108 = .ok (.iload_n 1, 1) := by decide +kernel
theorem d_M_lost_109 : decode b_M_lost 109 = .ok (.iload 7, 2) := by decide +kernel
theorem d_M_lost_111 : decode b_M_lost 111 = .ok (.invokevirtual 112, 3) := by decide +kernel
theorem d_M_lost_114 : decode b_M_lost 114 = .ok (.ifCond .ge 7, 3) := by decide +kernel
theorem d_M_lost_117 : decode b_M_lost 117 = .ok (.iconst 1, 1) := by decide +kernel
theorem d_M_lost_118 : decode b_M_lost 118 = .ok (.goto 4, 3) := by decide +kernel
theorem d_M_lost_121 : decode b_M_lost 121 = .ok (.iconst 0, 1) := by decide +kernel
theorem d_M_lost_122 : decode b_M_lost 122 = .ok (.istore 8, 2) := by decide +kernel
theorem d_M_lost_124 : decode b_M_lost 124 = .ok (.iload 8, 2) := by decide +kernel
theorem d_M_lost_126 : decode b_M_lost 126 = .ok (.ifCond .eq 24, 3) := by decide +kernel
theorem d_M_lost_129 : decode b_M_lost 129 = .ok (.iload 6, 2) := by decide +kernel
theorem d_M_lost_131 : decode b_M_lost 131 = .ok (.ifCond .ne 19, 3) := by decide +kernel
theorem d_M_lost_134 : decode b_M_lost 134 = .ok (.iload 5, 2) := by decide +kernel
theorem d_M_lost_136 : decode b_M_lost 136 = .ok (.iload_n 2, 1) := by decide +kernel
theorem d_M_lost_137 : decode b_M_lost 137 = .ok (.if_icmp .ne 10, 3) := by decide +kernel
theorem d_M_lost_140 : decode b_M_lost 140 = .ok (.iload_n 3, 1) := by decide +kernel
theorem d_M_lost_141 : decode b_M_lost 141 = .ok (.ifCond .ne 6, 3) := by decide +kernel
theorem d_M_lost_144 : decode b_M_lost 144 = .ok (.iload 7, 2) := by decide +kernel
theorem d_M_lost_146 : decode b_M_lost 146 = .ok (.ireturn, 1) := by decide +kernel
theorem d_M_lost_147 : decode b_M_lost 147 = .ok (.iinc 5 1, 3) := by decide +kernel
theorem d_M_lost_150 : decode b_M_lost 150 = .ok (.iload 8, 2) := by decide +kernel
theorem d_M_lost_152 : decode b_M_lost 152 = .ok (.ifCond .ne 21, 3) := by decide +kernel
theorem d_M_lost_155 : decode b_M_lost 155 = .ok (.iload 6, 2) := by decide +kernel
theorem d_M_lost_157 : decode b_M_lost 157 = .ok (.ifCond .eq 16, 3) := by decide +kernel
theorem d_M_lost_160 : decode b_M_lost 160 = .ok (.iload 5, 2) := by decide +kernel
theorem d_M_lost_162 : decode b_M_lost 162 = .ok (.iload_n 2, 1) := by decide +kernel
theorem d_M_lost_163 : decode b_M_lost 163 = .ok (.iconst 1, 1) := by decide +kernel
theorem d_M_lost_164 : decode b_M_lost 164 = .ok (.iadd, 1) := by decide +kernel
theorem d_M_lost_165 : decode b_M_lost 165 = .ok (.if_icmp .ne 8, 3) := by decide +kernel
theorem d_M_lost_168 : decode b_M_lost 168 = .ok (.iload 7, 2) := by decide +kernel
theorem d_M_lost_170 : decode b_M_lost 170 = .ok (.iconst 1, 1) := by decide +kernel
theorem d_M_lost_171 : decode b_M_lost 171 = .ok (.isub, 1) := by decide +kernel
theorem d_M_lost_172 : decode b_M_lost 172 = .ok (.ireturn, 1) := by decide +kernel
theorem d_M_lost_173 : decode b_M_lost 173 = .ok (.iload 8, 2) := by decide +kernel
theorem d_M_lost_175 : decode b_M_lost 175 = .ok (.istore 6, 2) := by decide +kernel
theorem d_M_lost_177 : decode b_M_lost 177 = .ok (.iinc 7 1, 3) := by decide +kernel
theorem d_M_lost_180 : decode b_M_lost 180 = .ok (.goto (-90), 3) := by decide +kernel
theorem d_M_lost_183 : decode b_M_lost 183 = .ok (.iconst (-1), 1) := by decide +kernel
theorem d_M_lost_184 : decode b_M_lost 184 = .ok (.ireturn, 1) := by decide +kernel
def L_M_lost_29 (k81 : Option Nat → Int32 → Int32 → Int32 → Int32 → gM → Option (Int32 × gM)) : Nat → Option Nat → Int32 → Int32 → Int32 → Int32 → Int32 → gM → Option (Int32 × gM)
  | 0, _, _, _, _, _, _, _ => none
  | f + 1, p0, p1, p2, p3, p4, p5, mm =>
    gb1 (gfI 10 2 p0 mm) fun v10 =>
    if v10 ≤ p5 then (
      k81 p0 p1 p2 p3 p4 mm)
    else (
      gb1 (gfR 10 3 p0 mm) fun v13 =>
      gb1 (gaI 0 v13 p5 mm) fun v15 =>
      if v15 = p1 then (
        gb1 (gfR 10 4 p0 mm) fun v18 =>
        gb1 (gaI 0 v18 p5 mm) fun v20 =>
        if v20 ≤ p4 then (
          gLet (p5 + 1) fun x23 =>
          L_M_lost_29 k81 f p0 p1 p2 p3 p4 x23 mm)
        else (
          gb1 (gfR 10 4 p0 mm) fun v24 =>
          gb1 (gaI 0 v24 p5 mm) fun v26 =>
          gLet (p5 + 1) fun x28 =>
          L_M_lost_29 k81 f p0 p1 p2 p3 v26 x28 mm))
      else (
        gLet (p5 + 1) fun x29 =>
        L_M_lost_29 k81 f p0 p1 p2 p3 p4 x29 mm))
set_option maxHeartbeats 4000000 in
set_option maxRecDepth 100000 in
theorem wL_M_lost_29 {l : Launch} {E : gD} {n0 s0 : Nat} {r : Int32} {res : gM} {k81 : Option Nat → Int32 → Int32 → Int32 → Int32 → gM → Option (Int32 × gM)} (hk81 : ∀ (p0 : Option Nat) (p1 : Int32) (p2 : Int32) (p3 : Int32) (p4 : Int32) (mm : gM), k81 p0 p1 p2 p3 p4 mm = some (r, res) → xX l E Y_M_lost n0 s0 (some (.int r)) res 81 [(0, .inr (.inr p0)), (1, .inl p1), (2, .inl p2), (3, .inl p3), (4, .inl p4)] [] mm) : ∀ (f : Nat) (p0 : Option Nat) (p1 : Int32) (p2 : Int32) (p3 : Int32) (p4 : Int32) (p5 : Int32) (mm : gM), L_M_lost_29 k81 f p0 p1 p2 p3 p4 p5 mm = some (r, res) → xX l E Y_M_lost n0 s0 (some (.int r)) res 29 [(0, .inr (.inr p0)), (1, .inl p1), (2, .inl p2), (3, .inl p3), (4, .inl p4), (5, .inl p5)] [] mm := by
  intro f
  induction f with
  | zero =>
    intro p0 p1 p2 p3 p4 p5 mm h
    rw [L_M_lost_29] at h
    cases h
  | succ f ih =>
    intro p0 p1 p2 p3 p4 p5 mm h
    rw [L_M_lost_29] at h
    refine x_iload 29 5 d_M_lost_29 rfl ?_
    refine x_aloadn 31 0 d_M_lost_31 rfl rfl ?_
    replace h := gb1_elim h; obtain ⟨v10, h11, h⟩ := h
    refine x_getI 32 h11 fl_M_89 d_M_lost_32 ?_
    refine x_icmp_ge 35 81 d_M_lost_35 (by decide) (fun c12 => ?_) (fun c12 => ?_)
    · replace h := gif_t h c12
      refine x_sub [0, 1, 2, 3, 4] rfl ?_
      exact hk81 _ _ _ _ _ _ h
    · replace h := gif_f h c12
      refine x_aloadn 38 0 d_M_lost_38 rfl rfl ?_
      replace h := gb1_elim h; obtain ⟨v13, h14, h⟩ := h
      refine x_getR 39 h14 fl_M_13 d_M_lost_39 ?_
      refine x_iload 42 5 d_M_lost_42 rfl ?_
      replace h := gb1_elim h; obtain ⟨v15, h16, h⟩ := h
      refine x_iald 44 rfl h16 d_M_lost_44 ?_
      refine x_iloadn 45 1 d_M_lost_45 rfl rfl ?_
      refine x_icmp_ne 46 71 d_M_lost_46 (by decide) (fun c17 => ?_) (fun c17 => ?_)
      · replace h := gif_t h c17
        refine x_aloadn 49 0 d_M_lost_49 rfl rfl ?_
        replace h := gb1_elim h; obtain ⟨v18, h19, h⟩ := h
        refine x_getR 50 h19 fl_M_17 d_M_lost_50 ?_
        refine x_iload 53 5 d_M_lost_53 rfl ?_
        replace h := gb1_elim h; obtain ⟨v20, h21, h⟩ := h
        refine x_iald 55 rfl h21 d_M_lost_55 ?_
        refine x_iload 56 4 d_M_lost_56 rfl ?_
        refine x_icmp_le 58 71 d_M_lost_58 (by decide) (fun c22 => ?_) (fun c22 => ?_)
        · replace h := gif_t h c22
          refine x_iload 71 4 d_M_lost_71 rfl ?_
          refine x_istore 73 (lv' := [(4, .inl p4), (0, .inr (.inr p0)), (1, .inl p1), (2, .inl p2), (3, .inl p3), (5, .inl p5)]) d_M_lost_73 (by decide) rfl ?_
          replace h := gLet_elim h; obtain ⟨x23, ex23, h⟩ := h
          refine x_iinc 75 5 (v := x23) (lv' := [(5, .inl x23), (4, .inl p4), (0, .inr (.inr p0)), (1, .inl p1), (2, .inl p2), (3, .inl p3)]) d_M_lost_75 rfl (by rw [ex23]; rfl) (by decide) rfl ?_
          refine x_goto 78 29 d_M_lost_78 (by decide) ?_
          refine x_sub [2, 3, 4, 5, 1, 0] rfl ?_
          exact ih _ _ _ _ _ _ _ h
        · replace h := gif_f h c22
          refine x_aloadn 61 0 d_M_lost_61 rfl rfl ?_
          replace h := gb1_elim h; obtain ⟨v24, h25, h⟩ := h
          refine x_getR 62 h25 fl_M_17 d_M_lost_62 ?_
          refine x_iload 65 5 d_M_lost_65 rfl ?_
          replace h := gb1_elim h; obtain ⟨v26, h27, h⟩ := h
          refine x_iald 67 rfl h27 d_M_lost_67 ?_
          refine x_goto 68 73 d_M_lost_68 (by decide) ?_
          refine x_istore 73 (lv' := [(4, .inl v26), (0, .inr (.inr p0)), (1, .inl p1), (2, .inl p2), (3, .inl p3), (5, .inl p5)]) d_M_lost_73 (by decide) rfl ?_
          replace h := gLet_elim h; obtain ⟨x28, ex28, h⟩ := h
          refine x_iinc 75 5 (v := x28) (lv' := [(5, .inl x28), (4, .inl v26), (0, .inr (.inr p0)), (1, .inl p1), (2, .inl p2), (3, .inl p3)]) d_M_lost_75 rfl (by rw [ex28]; rfl) (by decide) rfl ?_
          refine x_goto 78 29 d_M_lost_78 (by decide) ?_
          refine x_sub [2, 3, 4, 5, 1, 0] rfl ?_
          exact ih _ _ _ _ _ _ _ h
      · replace h := gif_f h c17
        refine x_iload 71 4 d_M_lost_71 rfl ?_
        refine x_istore 73 (lv' := [(4, .inl p4), (0, .inr (.inr p0)), (1, .inl p1), (2, .inl p2), (3, .inl p3), (5, .inl p5)]) d_M_lost_73 (by decide) rfl ?_
        replace h := gLet_elim h; obtain ⟨x29, ex29, h⟩ := h
        refine x_iinc 75 5 (v := x29) (lv' := [(5, .inl x29), (4, .inl p4), (0, .inr (.inr p0)), (1, .inl p1), (2, .inl p2), (3, .inl p3)]) d_M_lost_75 rfl (by rw [ex29]; rfl) (by decide) rfl ?_
        refine x_goto 78 29 d_M_lost_78 (by decide) ?_
        refine x_sub [2, 3, 4, 5, 1, 0] rfl ?_
        exact ih _ _ _ _ _ _ _ h
def L_M_lost_90 (k144 : Int32 → gM → Option (Int32 × gM)) (k168 : Int32 → gM → Option (Int32 × gM)) (k183 : gM → Option (Int32 × gM)) : Nat → Option Nat → Int32 → Int32 → Int32 → Int32 → Int32 → Int32 → Int32 → gM → Option (Int32 × gM)
  | 0, _, _, _, _, _, _, _, _, _ => none
  | f + 1, p0, p1, p2, p3, p4, p5, p6, p7, mm =>
    if p4 < p7 then (
      k183  mm)
    else (
      gb1 (grc 10 p0 mm) fun b34 =>
      gb2 (F_M_inBlock b34 p1 p7 mm) fun v31 mm32 =>
      gLet (fun (p0 : Option Nat) (p1 : Int32) (p2 : Int32) (p3 : Int32) (p4 : Int32) (p5 : Int32) (p6 : Int32) (p7 : Int32) (q0 : Int32) (mm : gM) =>
        gLet (fun (p0 : Option Nat) (p1 : Int32) (p2 : Int32) (p3 : Int32) (p4 : Int32) (p5 : Int32) (p6 : Int32) (p7 : Int32) (p8 : Int32) (mm : gM) =>
          if p8 = 0 then (
            if p6 = 0 then (
              gLet (p7 + 1) fun x38 =>
              L_M_lost_90 k144 k168 k183 f p0 p1 p2 p3 p4 p5 p8 x38 mm)
            else (
              if p5 = (p2 + (1 : Int32)) then (
                k168 p7 mm)
              else (
                gLet (p7 + 1) fun x40 =>
                L_M_lost_90 k144 k168 k183 f p0 p1 p2 p3 p4 p5 p8 x40 mm)))
          else (
            gLet (p7 + 1) fun x41 =>
            L_M_lost_90 k144 k168 k183 f p0 p1 p2 p3 p4 p5 p8 x41 mm)) fun J150 =>
        if q0 = 0 then (
          J150 p0 p1 p2 p3 p4 p5 p6 p7 q0 mm)
        else (
          if p6 = 0 then (
            gLet (fun (p0 : Option Nat) (p1 : Int32) (p2 : Int32) (p3 : Int32) (p4 : Int32) (p5 : Int32) (p6 : Int32) (p7 : Int32) (p8 : Int32) (mm : gM) =>
              gLet (p5 + 1) fun x44 =>
              J150 p0 p1 p2 p3 p4 x44 p6 p7 p8 mm) fun J147 =>
            if p5 = p2 then (
              if p3 = 0 then (
                k144 p7 mm)
              else (
                J147 p0 p1 p2 p3 p4 p5 p6 p7 q0 mm))
            else (
              J147 p0 p1 p2 p3 p4 p5 p6 p7 q0 mm))
          else (
            J150 p0 p1 p2 p3 p4 p5 p6 p7 q0 mm))) fun J122 =>
      gLet (fun (p0 : Option Nat) (p1 : Int32) (p2 : Int32) (p3 : Int32) (p4 : Int32) (p5 : Int32) (p6 : Int32) (p7 : Int32) (mm : gM) =>
        J122 p0 p1 p2 p3 p4 p5 p6 p7 (0 : Int32) mm) fun J121 =>
      if v31 = 0 then (
        gb1 (grc 10 p0 mm32) fun b51 =>
        gb2 (F_M_told b51 p1 p7 mm32) fun v48 mm49 =>
        if 0 ≤ v48 then (
          J121 p0 p1 p2 p3 p4 p5 p6 p7 mm49)
        else (
          J122 p0 p1 p2 p3 p4 p5 p6 p7 (1 : Int32) mm49))
      else (
        J121 p0 p1 p2 p3 p4 p5 p6 p7 mm32))
set_option maxHeartbeats 4000000 in
set_option maxRecDepth 100000 in
theorem wL_M_lost_90 {l : Launch} {E : gD} {n0 s0 : Nat} {r : Int32} {res : gM} {k144 : Int32 → gM → Option (Int32 × gM)} {k168 : Int32 → gM → Option (Int32 × gM)} {k183 : gM → Option (Int32 × gM)} (hk144 : ∀ (p7 : Int32) (mm : gM), k144 p7 mm = some (r, res) → xX l E Y_M_lost n0 s0 (some (.int r)) res 144 [(7, .inl p7)] [] mm) (hk168 : ∀ (p7 : Int32) (mm : gM), k168 p7 mm = some (r, res) → xX l E Y_M_lost n0 s0 (some (.int r)) res 168 [(7, .inl p7)] [] mm) (hk183 : ∀  (mm : gM), k183  mm = some (r, res) → xX l E Y_M_lost n0 s0 (some (.int r)) res 183 [] [] mm) : ∀ (f : Nat) (p0 : Option Nat) (p1 : Int32) (p2 : Int32) (p3 : Int32) (p4 : Int32) (p5 : Int32) (p6 : Int32) (p7 : Int32) (mm : gM), L_M_lost_90 k144 k168 k183 f p0 p1 p2 p3 p4 p5 p6 p7 mm = some (r, res) → xX l E Y_M_lost n0 s0 (some (.int r)) res 90 [(0, .inr (.inr p0)), (1, .inl p1), (2, .inl p2), (3, .inl p3), (4, .inl p4), (5, .inl p5), (6, .inl p6), (7, .inl p7)] [] mm := by
  intro f
  induction f with
  | zero =>
    intro p0 p1 p2 p3 p4 p5 p6 p7 mm h
    rw [L_M_lost_90] at h
    cases h
  | succ f ih =>
    intro p0 p1 p2 p3 p4 p5 p6 p7 mm h
    rw [L_M_lost_90] at h
    refine x_iload 90 7 d_M_lost_90 rfl ?_
    refine x_iload 92 4 d_M_lost_92 rfl ?_
    refine x_icmp_gt 94 183 d_M_lost_94 (by decide) (fun c30 => ?_) (fun c30 => ?_)
    · replace h := gif_t h c30
      refine x_sub [] rfl ?_
      exact hk183 _ h
    · replace h := gif_f h c30
      refine x_aloadn 97 0 d_M_lost_97 rfl rfl ?_
      refine x_iloadn 98 1 d_M_lost_98 rfl rfl ?_
      refine x_iload 99 7 d_M_lost_99 rfl ?_
      replace h := gb1_elim h; obtain ⟨b34, h35, h⟩ := h
      replace h := gb2_elim h; obtain ⟨v31, mm32, h33, h⟩ := h
      refine x_callV 101 2 (as := [.inl p1, .inl p7]) (st' := []) (rs := [.inl v31]) (k_M_inBlock h33) rfl cf_M_147 ⟨rfl, by decide +kernel, by decide, by decide, Nat.le_of_ble_eq_true rfl⟩ h35 rfl d_M_lost_101 ?_
      replace h := gLet_elim h; obtain ⟨J122, hJ122, h⟩ := h
      have kJ122 : ∀ (p0 : Option Nat) (p1 : Int32) (p2 : Int32) (p3 : Int32) (p4 : Int32) (p5 : Int32) (p6 : Int32) (p7 : Int32) (q0 : Int32) (mm : gM), J122 p0 p1 p2 p3 p4 p5 p6 p7 q0 mm = some (r, res) → xX l E Y_M_lost n0 s0 (some (.int r)) res 122 [(0, .inr (.inr p0)), (1, .inl p1), (2, .inl p2), (3, .inl p3), (4, .inl p4), (5, .inl p5), (6, .inl p6), (7, .inl p7)] [.inl q0] mm := by
        intro p0 p1 p2 p3 p4 p5 p6 p7 q0 mm h
        rw [hJ122] at h
        refine x_istore 122 (lv' := [(8, .inl q0), (0, .inr (.inr p0)), (1, .inl p1), (2, .inl p2), (3, .inl p3), (4, .inl p4), (5, .inl p5), (6, .inl p6), (7, .inl p7)]) d_M_lost_122 (by decide) rfl ?_
        refine x_iload 124 0 d_M_lost_124 rfl ?_
        replace h := gLet_elim h; obtain ⟨J150, hJ150, h⟩ := h
        have kJ150 : ∀ (p0 : Option Nat) (p1 : Int32) (p2 : Int32) (p3 : Int32) (p4 : Int32) (p5 : Int32) (p6 : Int32) (p7 : Int32) (p8 : Int32) (mm : gM), J150 p0 p1 p2 p3 p4 p5 p6 p7 p8 mm = some (r, res) → xX l E Y_M_lost n0 s0 (some (.int r)) res 150 [(0, .inr (.inr p0)), (1, .inl p1), (2, .inl p2), (3, .inl p3), (4, .inl p4), (5, .inl p5), (6, .inl p6), (7, .inl p7), (8, .inl p8)] [] mm := by
          intro p0 p1 p2 p3 p4 p5 p6 p7 p8 mm h
          rw [hJ150] at h
          refine x_iload 150 8 d_M_lost_150 rfl ?_
          refine x_if_ne 152 173 d_M_lost_152 (by decide) (fun c36 => ?_) (fun c36 => ?_)
          · replace h := gif_t h c36
            refine x_iload 155 6 d_M_lost_155 rfl ?_
            refine x_if_eq 157 173 d_M_lost_157 (by decide) (fun c37 => ?_) (fun c37 => ?_)
            · replace h := gif_t h c37
              refine x_iload 173 8 d_M_lost_173 rfl ?_
              refine x_istore 175 (lv' := [(6, .inl p8), (0, .inr (.inr p0)), (1, .inl p1), (2, .inl p2), (3, .inl p3), (4, .inl p4), (5, .inl p5), (7, .inl p7), (8, .inl p8)]) d_M_lost_175 (by decide) rfl ?_
              replace h := gLet_elim h; obtain ⟨x38, ex38, h⟩ := h
              refine x_iinc 177 7 (v := x38) (lv' := [(7, .inl x38), (6, .inl p8), (0, .inr (.inr p0)), (1, .inl p1), (2, .inl p2), (3, .inl p3), (4, .inl p4), (5, .inl p5), (8, .inl p8)]) d_M_lost_177 rfl (by rw [ex38]; rfl) (by decide) rfl ?_
              refine x_goto 180 90 d_M_lost_180 (by decide) ?_
              refine x_sub [2, 3, 4, 5, 6, 7, 1, 0] rfl ?_
              exact ih _ _ _ _ _ _ _ _ _ h
            · replace h := gif_f h c37
              refine x_iload 160 5 d_M_lost_160 rfl ?_
              refine x_iloadn 162 2 d_M_lost_162 rfl rfl ?_
              refine x_iconst 163 d_M_lost_163 (v := (1 : Int32)) (by decide +kernel) ?_
              refine x_iadd 164 d_M_lost_164 ?_
              refine x_icmp_ne 165 173 d_M_lost_165 (by decide) (fun c39 => ?_) (fun c39 => ?_)
              · replace h := gif_t h c39
                refine x_sub [7] rfl ?_
                exact hk168 _ _ h
              · replace h := gif_f h c39
                refine x_iload 173 8 d_M_lost_173 rfl ?_
                refine x_istore 175 (lv' := [(6, .inl p8), (0, .inr (.inr p0)), (1, .inl p1), (2, .inl p2), (3, .inl p3), (4, .inl p4), (5, .inl p5), (7, .inl p7), (8, .inl p8)]) d_M_lost_175 (by decide) rfl ?_
                replace h := gLet_elim h; obtain ⟨x40, ex40, h⟩ := h
                refine x_iinc 177 7 (v := x40) (lv' := [(7, .inl x40), (6, .inl p8), (0, .inr (.inr p0)), (1, .inl p1), (2, .inl p2), (3, .inl p3), (4, .inl p4), (5, .inl p5), (8, .inl p8)]) d_M_lost_177 rfl (by rw [ex40]; rfl) (by decide) rfl ?_
                refine x_goto 180 90 d_M_lost_180 (by decide) ?_
                refine x_sub [2, 3, 4, 5, 6, 7, 1, 0] rfl ?_
                exact ih _ _ _ _ _ _ _ _ _ h
          · replace h := gif_f h c36
            refine x_iload 173 8 d_M_lost_173 rfl ?_
            refine x_istore 175 (lv' := [(6, .inl p8), (0, .inr (.inr p0)), (1, .inl p1), (2, .inl p2), (3, .inl p3), (4, .inl p4), (5, .inl p5), (7, .inl p7), (8, .inl p8)]) d_M_lost_175 (by decide) rfl ?_
            replace h := gLet_elim h; obtain ⟨x41, ex41, h⟩ := h
            refine x_iinc 177 7 (v := x41) (lv' := [(7, .inl x41), (6, .inl p8), (0, .inr (.inr p0)), (1, .inl p1), (2, .inl p2), (3, .inl p3), (4, .inl p4), (5, .inl p5), (8, .inl p8)]) d_M_lost_177 rfl (by rw [ex41]; rfl) (by decide) rfl ?_
            refine x_goto 180 90 d_M_lost_180 (by decide) ?_
            refine x_sub [2, 3, 4, 5, 6, 7, 1, 0] rfl ?_
            exact ih _ _ _ _ _ _ _ _ _ h
        refine x_if_eq 126 150 d_M_lost_126 (by decide) (fun c42 => ?_) (fun c42 => ?_)
        · replace h := gif_t h c42
          refine x_sub [1, 2, 3, 4, 5, 6, 7, 8, 0] rfl ?_
          exact kJ150 _ _ _ _ _ _ _ _ _ _ h
        · replace h := gif_f h c42
          refine x_iload 129 7 d_M_lost_129 rfl ?_
          refine x_if_ne 131 150 d_M_lost_131 (by decide) (fun c43 => ?_) (fun c43 => ?_)
          · replace h := gif_t h c43
            refine x_iload 134 6 d_M_lost_134 rfl ?_
            refine x_iloadn 136 3 d_M_lost_136 rfl rfl ?_
            replace h := gLet_elim h; obtain ⟨J147, hJ147, h⟩ := h
            have kJ147 : ∀ (p0 : Option Nat) (p1 : Int32) (p2 : Int32) (p3 : Int32) (p4 : Int32) (p5 : Int32) (p6 : Int32) (p7 : Int32) (p8 : Int32) (mm : gM), J147 p0 p1 p2 p3 p4 p5 p6 p7 p8 mm = some (r, res) → xX l E Y_M_lost n0 s0 (some (.int r)) res 147 [(0, .inr (.inr p0)), (1, .inl p1), (2, .inl p2), (3, .inl p3), (4, .inl p4), (5, .inl p5), (6, .inl p6), (7, .inl p7), (8, .inl p8)] [] mm := by
              intro p0 p1 p2 p3 p4 p5 p6 p7 p8 mm h
              rw [hJ147] at h
              replace h := gLet_elim h; obtain ⟨x44, ex44, h⟩ := h
              refine x_iinc 147 5 (v := x44) (lv' := [(5, .inl x44), (0, .inr (.inr p0)), (1, .inl p1), (2, .inl p2), (3, .inl p3), (4, .inl p4), (6, .inl p6), (7, .inl p7), (8, .inl p8)]) d_M_lost_147 rfl (by rw [ex44]; rfl) (by decide) rfl ?_
              refine x_sub [1, 2, 3, 4, 5, 0, 6, 7, 8] rfl ?_
              exact kJ150 _ _ _ _ _ _ _ _ _ _ h
            refine x_icmp_ne 137 147 d_M_lost_137 (by decide) (fun c45 => ?_) (fun c45 => ?_)
            · replace h := gif_t h c45
              refine x_iloadn 140 4 d_M_lost_140 rfl rfl ?_
              refine x_if_ne 141 147 d_M_lost_141 (by decide) (fun c46 => ?_) (fun c46 => ?_)
              · replace h := gif_t h c46
                refine x_sub [8] rfl ?_
                exact hk144 _ _ h
              · replace h := gif_f h c46
                refine x_sub [1, 2, 3, 4, 5, 6, 7, 8, 0] rfl ?_
                exact kJ147 _ _ _ _ _ _ _ _ _ _ h
            · replace h := gif_f h c45
              refine x_sub [1, 2, 3, 4, 5, 6, 7, 8, 0] rfl ?_
              exact kJ147 _ _ _ _ _ _ _ _ _ _ h
          · replace h := gif_f h c43
            refine x_sub [1, 2, 3, 4, 5, 6, 7, 8, 0] rfl ?_
            exact kJ150 _ _ _ _ _ _ _ _ _ _ h
      replace h := gLet_elim h; obtain ⟨J121, hJ121, h⟩ := h
      have kJ121 : ∀ (p0 : Option Nat) (p1 : Int32) (p2 : Int32) (p3 : Int32) (p4 : Int32) (p5 : Int32) (p6 : Int32) (p7 : Int32) (mm : gM), J121 p0 p1 p2 p3 p4 p5 p6 p7 mm = some (r, res) → xX l E Y_M_lost n0 s0 (some (.int r)) res 121 [(0, .inr (.inr p0)), (1, .inl p1), (2, .inl p2), (3, .inl p3), (4, .inl p4), (5, .inl p5), (6, .inl p6), (7, .inl p7)] [] mm := by
        intro p0 p1 p2 p3 p4 p5 p6 p7 mm h
        rw [hJ121] at h
        refine x_iconst 121 d_M_lost_121 (v := (0 : Int32)) (by decide +kernel) ?_
        exact kJ122 _ _ _ _ _ _ _ _ _ _ h
      refine x_if_ne 104 121 d_M_lost_104 (by decide) (fun c47 => ?_) (fun c47 => ?_)
      · replace h := gif_t h c47
        refine x_aloadn 107 0 d_M_lost_107 rfl rfl ?_
        refine x_iloadn 108 1 d_M_lost_108 rfl rfl ?_
        refine x_iload 109 7 d_M_lost_109 rfl ?_
        replace h := gb1_elim h; obtain ⟨b51, h52, h⟩ := h
        replace h := gb2_elim h; obtain ⟨v48, mm49, h50, h⟩ := h
        refine x_callV 111 2 (as := [.inl p1, .inl p7]) (st' := []) (rs := [.inl v48]) (k_M_told h50) rfl cf_M_112 ⟨rfl, by decide +kernel, by decide, by decide, Nat.le_of_ble_eq_true rfl⟩ h52 rfl d_M_lost_111 ?_
        refine x_if_ge 114 121 d_M_lost_114 (by decide) (fun c53 => ?_) (fun c53 => ?_)
        · replace h := gif_t h c53
          exact kJ121 _ _ _ _ _ _ _ _ _ h
        · replace h := gif_f h c53
          refine x_iconst 117 d_M_lost_117 (v := (1 : Int32)) (by decide +kernel) ?_
          refine x_goto 118 122 d_M_lost_118 (by decide) ?_
          exact kJ122 _ _ _ _ _ _ _ _ _ _ h
      · replace h := gif_f h c47
        exact kJ121 _ _ _ _ _ _ _ _ _ h
def F_M_lost (b : Nat) (a0 : Int32) (a1 : Int32) (a2 : Int32) (mm : gM) : Option (Int32 × gM) :=
  gb1 (grc 10 (some b) mm) fun b4 =>
  gb2 (F_M_isTeller b4 a0 mm) fun v1 mm2 =>
  if v1 = 0 then (
    some ((-1 : Int32), mm2))
  else (
    if a1 < 0 then (
      some ((-1 : Int32), mm2))
    else (
      if a2 < 0 then (
        some ((-1 : Int32), mm2))
      else (
        if a2 ≤ (1 : Int32) then (
          L_M_lost_29 (fun p0 p1 p2 p3 p4 mm =>
            L_M_lost_90 (fun p7 mm =>
              some (p7, mm)) (fun p7 mm =>
              some ((p7 - (1 : Int32)), mm)) (fun  mm =>
              some ((-1 : Int32), mm)) gF p0 p1 p2 p3 p4 (0 : Int32) (0 : Int32) (1 : Int32) mm) gF (some b) a0 a1 a2 (0 : Int32) (0 : Int32) mm2)
        else (
          some ((-1 : Int32), mm2)))))
set_option maxHeartbeats 8000000 in
set_option maxRecDepth 100000 in
theorem w_M_lost {l : Launch} {E : gD} {n0 s0 : Nat} {b : Nat} {a0 : Int32} {a1 : Int32} {a2 : Int32} {r : Int32} {mm res : gM} (h : F_M_lost b a0 a1 a2 mm = some (r, res)) : xX l E Y_M_lost n0 s0 (some (.int r)) res 0 [(0, .inr (.inr (some b))), (1, .inl a0), (2, .inl a1), (3, .inl a2)] [] mm := by
  unfold F_M_lost at h
  refine x_aloadn 0 0 d_M_lost_0 rfl rfl ?_
  refine x_iloadn 1 1 d_M_lost_1 rfl rfl ?_
  replace h := gb1_elim h; obtain ⟨b4, h5, h⟩ := h
  replace h := gb2_elim h; obtain ⟨v1, mm2, h3, h⟩ := h
  refine x_callV 2 1 (as := [.inl a0]) (st' := []) (rs := [.inl v1]) (k_M_isTeller h3) rfl cf_M_92 ⟨rfl, by decide +kernel, by decide, by decide, Nat.le_of_ble_eq_true rfl⟩ h5 rfl d_M_lost_2 ?_
  refine x_if_eq 5 21 d_M_lost_5 (by decide) (fun c6 => ?_) (fun c6 => ?_)
  · replace h := gif_t h c6
    refine x_iconst 21 d_M_lost_21 (v := (-1 : Int32)) (by decide +kernel) ?_
    cases h
    exact x_ireturn 22 rfl d_M_lost_22
  · replace h := gif_f h c6
    refine x_iloadn 8 2 d_M_lost_8 rfl rfl ?_
    refine x_if_lt 9 21 d_M_lost_9 (by decide) (fun c7 => ?_) (fun c7 => ?_)
    · replace h := gif_t h c7
      refine x_iconst 21 d_M_lost_21 (v := (-1 : Int32)) (by decide +kernel) ?_
      cases h
      exact x_ireturn 22 rfl d_M_lost_22
    · replace h := gif_f h c7
      refine x_iloadn 12 3 d_M_lost_12 rfl rfl ?_
      refine x_if_lt 13 21 d_M_lost_13 (by decide) (fun c8 => ?_) (fun c8 => ?_)
      · replace h := gif_t h c8
        refine x_iconst 21 d_M_lost_21 (v := (-1 : Int32)) (by decide +kernel) ?_
        cases h
        exact x_ireturn 22 rfl d_M_lost_22
      · replace h := gif_f h c8
        refine x_iloadn 16 3 d_M_lost_16 rfl rfl ?_
        refine x_iconst 17 d_M_lost_17 (v := (1 : Int32)) (by decide +kernel) ?_
        refine x_icmp_le 18 23 d_M_lost_18 (by decide) (fun c9 => ?_) (fun c9 => ?_)
        · replace h := gif_t h c9
          refine x_iconst 23 d_M_lost_23 (v := (0 : Int32)) (by decide +kernel) ?_
          refine x_istore 24 (lv' := [(4, .inl (0 : Int32)), (0, .inr (.inr (some b))), (1, .inl a0), (2, .inl a1), (3, .inl a2)]) d_M_lost_24 (by decide) rfl ?_
          refine x_iconst 26 d_M_lost_26 (v := (0 : Int32)) (by decide +kernel) ?_
          refine x_istore 27 (lv' := [(5, .inl (0 : Int32)), (4, .inl (0 : Int32)), (0, .inr (.inr (some b))), (1, .inl a0), (2, .inl a1), (3, .inl a2)]) d_M_lost_27 (by decide) rfl ?_
          refine x_sub [2, 3, 4, 5, 1, 0] rfl ?_
          refine wL_M_lost_29 ?_ gF _ _ _ _ _ _ _ h
          · intro p0 p1 p2 p3 p4 mm h
            refine x_iconst 81 d_M_lost_81 (v := (0 : Int32)) (by decide +kernel) ?_
            refine x_istore 82 (lv' := [(5, .inl (0 : Int32)), (0, .inr (.inr p0)), (1, .inl p1), (2, .inl p2), (3, .inl p3), (4, .inl p4)]) d_M_lost_82 (by decide) rfl ?_
            refine x_iconst 84 d_M_lost_84 (v := (0 : Int32)) (by decide +kernel) ?_
            refine x_istore 85 (lv' := [(6, .inl (0 : Int32)), (5, .inl (0 : Int32)), (0, .inr (.inr p0)), (1, .inl p1), (2, .inl p2), (3, .inl p3), (4, .inl p4)]) d_M_lost_85 (by decide) rfl ?_
            refine x_iconst 87 d_M_lost_87 (v := (1 : Int32)) (by decide +kernel) ?_
            refine x_istore 88 (lv' := [(7, .inl (1 : Int32)), (6, .inl (0 : Int32)), (5, .inl (0 : Int32)), (0, .inr (.inr p0)), (1, .inl p1), (2, .inl p2), (3, .inl p3), (4, .inl p4)]) d_M_lost_88 (by decide) rfl ?_
            refine x_sub [3, 4, 5, 6, 7, 2, 1, 0] rfl ?_
            refine wL_M_lost_90 ?_ ?_ ?_ gF _ _ _ _ _ _ _ _ _ h
            · intro p7 mm h
              refine x_iload 144 0 d_M_lost_144 rfl ?_
              cases h
              exact x_ireturn 146 rfl d_M_lost_146
            · intro p7 mm h
              refine x_iload 168 0 d_M_lost_168 rfl ?_
              refine x_iconst 170 d_M_lost_170 (v := (1 : Int32)) (by decide +kernel) ?_
              refine x_isub 171 d_M_lost_171 ?_
              cases h
              exact x_ireturn 172 rfl d_M_lost_172
            · intro  mm h
              refine x_iconst 183 d_M_lost_183 (v := (-1 : Int32)) (by decide +kernel) ?_
              cases h
              exact x_ireturn 184 rfl d_M_lost_184
        · replace h := gif_f h c9
          refine x_iconst 21 d_M_lost_21 (v := (-1 : Int32)) (by decide +kernel) ?_
          cases h
          exact x_ireturn 22 rfl d_M_lost_22
theorem k_M_lost {b : Nat} {a0 : Int32} {a1 : Int32} {a2 : Int32} {r : Int32} {mm res : gM} (h : F_M_lost b a0 a1 a2 mm = some (r, res)) : ∀ (l : Launch) (E : gD), gLe mm res ∧ gMet l E Y_M_lost y_M_lost [.inr (.inr (some b)), .inl a0, .inl a1, .inl a2] (some (.int r)) mm res :=
  fun l E => ⟨(w_M_lost (l := l) (E := E) (n0 := 0) (s0 := 0) h).1, x_met (by decide +kernel) rfl rfl rfl (Nat.le_of_ble_eq_true rfl) (w_M_lost h)⟩
theorem d_S_close_0 : decode b_S_close 0 = .ok (.aload_n 0, 1) := by decide +kernel
theorem d_S_close_1 : decode b_S_close 1 = .ok (.iload_n 1, 1) := by decide +kernel
theorem d_S_close_2 : decode b_S_close 2 = .ok (.invokevirtual 56, 3) := by decide +kernel
theorem d_S_close_5 : decode b_S_close 5 = .ok (.astore_n 2, 1) := by decide +kernel
theorem d_S_close_6 : decode b_S_close 6 = .ok (.aload_n 2, 1) := by decide +kernel
theorem d_S_close_7 : decode b_S_close 7 = .ok (.ifnull 10, 3) := by decide +kernel
theorem d_S_close_10 : decode b_S_close 10 = .ok (.aload_n 2, 1) := by decide +kernel
theorem d_S_close_11 : decode b_S_close 11 = .ok (.getfield 83, 3) := by decide +kernel
theorem d_S_close_14 : decode b_S_close 14 = .ok (.ifCond .eq 5, 3) := by decide +kernel
theorem d_S_close_17 : decode b_S_close 17 = .ok (.iconst 0, 1) := by decide +kernel
theorem d_S_close_18 : decode b_S_close 18 = .ok (.ireturn, 1) := by decide +kernel
theorem d_S_close_19 : decode b_S_close 19 = .ok (.aload_n 2, 1) := by decide +kernel
theorem d_S_close_20 : decode b_S_close 20 = .ok (.iconst 1, 1) := by decide +kernel
theorem d_S_close_21 : decode b_S_close 21 = .ok (.putfield 83, 3) := by decide +kernel
theorem d_S_close_24 : decode b_S_close 24 = .ok (.iconst 1, 1) := by decide +kernel
theorem d_S_close_25 : decode b_S_close 25 = .ok (.ireturn, 1) := by decide +kernel
def F_S_close (b : Nat) (a0 : Int32) (mm : gM) : Option (Int32 × gM) :=
  gb1 (grc 0 (some b) mm) fun b4 =>
  gb2 (F_S_tellerAt b4 a0 mm) fun v1 mm2 =>
  if v1 = none then (
    some ((0 : Int32), mm2))
  else (
    gb1 (gfI 1 3 v1 mm2) fun v7 =>
    if v7 = 0 then (
      gb1 (gpV 1 3 v1 (.int (1 : Int32)) mm2) fun mm10 =>
      some ((1 : Int32), mm10))
    else (
      some ((0 : Int32), mm2)))
set_option maxHeartbeats 8000000 in
set_option maxRecDepth 100000 in
theorem w_S_close {l : Launch} {E : gD} {n0 s0 : Nat} {b : Nat} {a0 : Int32} {r : Int32} {mm res : gM} (h : F_S_close b a0 mm = some (r, res)) : xX l E Y_S_close n0 s0 (some (.int r)) res 0 [(0, .inr (.inr (some b))), (1, .inl a0)] [] mm := by
  unfold F_S_close at h
  refine x_aloadn 0 0 d_S_close_0 rfl rfl ?_
  refine x_iloadn 1 1 d_S_close_1 rfl rfl ?_
  replace h := gb1_elim h; obtain ⟨b4, h5, h⟩ := h
  replace h := gb2_elim h; obtain ⟨v1, mm2, h3, h⟩ := h
  refine x_callV 2 1 (as := [.inl a0]) (st' := []) (rs := [.inr (.inr v1)]) (k_S_tellerAt h3) rfl cf_S_56 ⟨rfl, by decide +kernel, by decide, by decide, Nat.le_of_ble_eq_true rfl⟩ h5 rfl d_S_close_2 ?_
  refine x_astoren 5 (lv' := [(2, .inr (.inr v1)), (0, .inr (.inr (some b))), (1, .inl a0)]) d_S_close_5 rfl (by decide) rfl ?_
  refine x_aloadn 6 0 d_S_close_6 rfl rfl ?_
  refine x_ifnull 7 17 d_S_close_7 (by decide) (fun c6 => ?_) (fun c6 => ?_)
  · replace h := gif_t h c6
    refine x_iconst 17 d_S_close_17 (v := (0 : Int32)) (by decide +kernel) ?_
    cases h
    exact x_zreturn 18 (by decide) rfl d_S_close_18
  · replace h := gif_f h c6
    refine x_aloadn 10 0 d_S_close_10 rfl rfl ?_
    replace h := gb1_elim h; obtain ⟨v7, h8, h⟩ := h
    refine x_getI 11 h8 fl_S_83 d_S_close_11 ?_
    refine x_if_eq 14 19 d_S_close_14 (by decide) (fun c9 => ?_) (fun c9 => ?_)
    · replace h := gif_t h c9
      refine x_aloadn 19 0 d_S_close_19 rfl rfl ?_
      refine x_iconst 20 d_S_close_20 (v := (1 : Int32)) (by decide +kernel) ?_
      replace h := gb1_elim h; obtain ⟨mm10, h11, h⟩ := h
      refine x_putV 21 fp_S_83 (g_nZ (by decide)) (g_fZ (by decide)) h11 d_S_close_21 ?_
      refine x_iconst 24 d_S_close_24 (v := (1 : Int32)) (by decide +kernel) ?_
      cases h
      exact x_zreturn 25 (by decide) rfl d_S_close_25
    · replace h := gif_f h c9
      refine x_iconst 17 d_S_close_17 (v := (0 : Int32)) (by decide +kernel) ?_
      cases h
      exact x_zreturn 18 (by decide) rfl d_S_close_18
theorem k_S_close {b : Nat} {a0 : Int32} {r : Int32} {mm res : gM} (h : F_S_close b a0 mm = some (r, res)) : ∀ (l : Launch) (E : gD), gLe mm res ∧ gMet l E Y_S_close y_S_close [.inr (.inr (some b)), .inl a0] (some (.int r)) mm res :=
  fun l E => ⟨(w_S_close (l := l) (E := E) (n0 := 0) (s0 := 0) h).1, x_met (by decide +kernel) rfl rfl rfl (Nat.le_of_ble_eq_true rfl) (w_S_close h)⟩
theorem d_M_close_0 : decode b_M_close 0 = .ok (.aload_n 0, 1) := by decide +kernel
theorem d_M_close_1 : decode b_M_close 1 = .ok (.iload_n 1, 1) := by decide +kernel
theorem d_M_close_2 : decode b_M_close 2 = .ok (.invokevirtual 92, 3) := by decide +kernel
theorem d_M_close_5 : decode b_M_close 5 = .ok (.ifCond .eq 12, 3) := by decide +kernel
theorem d_M_close_8 : decode b_M_close 8 = .ok (.aload_n 0, 1) := by decide +kernel
theorem d_M_close_9 : decode b_M_close 9 = .ok (.getfield 7, 3) := by decide +kernel
theorem d_M_close_12 : decode b_M_close 12 = .ok (.iload_n 1, 1) := by decide +kernel
theorem d_M_close_13 : decode b_M_close 13 = .ok (.baload, 1) := by decide +kernel
theorem d_M_close_14 : decode b_M_close 14 = .ok (.ifCond .eq 5, 3) := by decide +kernel
theorem d_M_close_17 : decode b_M_close 17 = .ok (.iconst 0, 1) := by decide +kernel
theorem d_M_close_18 : decode b_M_close 18 = .ok (.ireturn, 1) := by decide +kernel
theorem d_M_close_19 : decode b_M_close 19 = .ok (.aload_n 0, 1) := by decide +kernel
theorem d_M_close_20 : decode b_M_close 20 = .ok (.getfield 7, 3) := by decide +kernel
theorem d_M_close_23 : decode b_M_close 23 = .ok (.iload_n 1, 1) := by decide +kernel
theorem d_M_close_24 : decode b_M_close 24 = .ok (.iconst 1, 1) := by decide +kernel
theorem d_M_close_25 : decode b_M_close 25 = .ok (.bastore, 1) := by decide +kernel
theorem d_M_close_26 : decode b_M_close 26 = .ok (.iconst 1, 1) := by decide +kernel
theorem d_M_close_27 : decode b_M_close 27 = .ok (.ireturn, 1) := by decide +kernel
def F_M_close (b : Nat) (a0 : Int32) (mm : gM) : Option (Int32 × gM) :=
  gb1 (grc 10 (some b) mm) fun b4 =>
  gb2 (F_M_isTeller b4 a0 mm) fun v1 mm2 =>
  if v1 = 0 then (
    some ((0 : Int32), mm2))
  else (
    gb1 (gfR 10 1 (some b) mm2) fun v7 =>
    gb1 (gaI 2 v7 a0 mm2) fun v9 =>
    if v9 = 0 then (
      gb1 (gfR 10 1 (some b) mm2) fun v12 =>
      gb1 (gsI 2 v12 a0 (1 : Int32) mm2) fun mm14 =>
      some ((1 : Int32), mm14))
    else (
      some ((0 : Int32), mm2)))
set_option maxHeartbeats 8000000 in
set_option maxRecDepth 100000 in
theorem w_M_close {l : Launch} {E : gD} {n0 s0 : Nat} {b : Nat} {a0 : Int32} {r : Int32} {mm res : gM} (h : F_M_close b a0 mm = some (r, res)) : xX l E Y_M_close n0 s0 (some (.int r)) res 0 [(0, .inr (.inr (some b))), (1, .inl a0)] [] mm := by
  unfold F_M_close at h
  refine x_aloadn 0 0 d_M_close_0 rfl rfl ?_
  refine x_iloadn 1 1 d_M_close_1 rfl rfl ?_
  replace h := gb1_elim h; obtain ⟨b4, h5, h⟩ := h
  replace h := gb2_elim h; obtain ⟨v1, mm2, h3, h⟩ := h
  refine x_callV 2 1 (as := [.inl a0]) (st' := []) (rs := [.inl v1]) (k_M_isTeller h3) rfl cf_M_92 ⟨rfl, by decide +kernel, by decide, by decide, Nat.le_of_ble_eq_true rfl⟩ h5 rfl d_M_close_2 ?_
  refine x_if_eq 5 17 d_M_close_5 (by decide) (fun c6 => ?_) (fun c6 => ?_)
  · replace h := gif_t h c6
    refine x_iconst 17 d_M_close_17 (v := (0 : Int32)) (by decide +kernel) ?_
    cases h
    exact x_zreturn 18 (by decide) rfl d_M_close_18
  · replace h := gif_f h c6
    refine x_aloadn 8 0 d_M_close_8 rfl rfl ?_
    replace h := gb1_elim h; obtain ⟨v7, h8, h⟩ := h
    refine x_getR 9 h8 fl_M_7 d_M_close_9 ?_
    refine x_iloadn 12 1 d_M_close_12 rfl rfl ?_
    replace h := gb1_elim h; obtain ⟨v9, h10, h⟩ := h
    refine x_zald 13 rfl h10 d_M_close_13 ?_
    refine x_if_eq 14 19 d_M_close_14 (by decide) (fun c11 => ?_) (fun c11 => ?_)
    · replace h := gif_t h c11
      refine x_aloadn 19 0 d_M_close_19 rfl rfl ?_
      replace h := gb1_elim h; obtain ⟨v12, h13, h⟩ := h
      refine x_getR 20 h13 fl_M_7 d_M_close_20 ?_
      refine x_iloadn 23 1 d_M_close_23 rfl rfl ?_
      refine x_iconst 24 d_M_close_24 (v := (1 : Int32)) (by decide +kernel) ?_
      replace h := gb1_elim h; obtain ⟨mm14, h15, h⟩ := h
      refine x_zast 25 (by decide) (by decide) rfl h15 d_M_close_25 ?_
      refine x_iconst 26 d_M_close_26 (v := (1 : Int32)) (by decide +kernel) ?_
      cases h
      exact x_zreturn 27 (by decide) rfl d_M_close_27
    · replace h := gif_f h c11
      refine x_iconst 17 d_M_close_17 (v := (0 : Int32)) (by decide +kernel) ?_
      cases h
      exact x_zreturn 18 (by decide) rfl d_M_close_18
theorem k_M_close {b : Nat} {a0 : Int32} {r : Int32} {mm res : gM} (h : F_M_close b a0 mm = some (r, res)) : ∀ (l : Launch) (E : gD), gLe mm res ∧ gMet l E Y_M_close y_M_close [.inr (.inr (some b)), .inl a0] (some (.int r)) mm res :=
  fun l E => ⟨(w_M_close (l := l) (E := E) (n0 := 0) (s0 := 0) h).1, x_met (by decide +kernel) rfl rfl rfl (Nat.le_of_ble_eq_true rfl) (w_M_close h)⟩
theorem d_S_isSecond_0 : decode b_S_isSecond 0 = .ok (.lload_n 0, 1) := by decide +kernel
theorem d_S_isSecond_1 : decode b_S_isSecond 1 = .ok (.lconst 0, 1) := by decide +kernel
theorem d_S_isSecond_2 : decode b_S_isSecond 2 = .ok (.lcmp, 1) := by decide +kernel
theorem d_S_isSecond_3 : decode b_S_isSecond 3 = .ok (.ifCond .lt 15, 3) := by decide +kernel
theorem d_S_isSecond_6 : decode b_S_isSecond 6 = .ok (.lload_n 0, 1) := by decide +kernel
theorem d_S_isSecond_7 : decode b_S_isSecond 7 = .ok (.ldc2_w 206, 3) := by decide +kernel
theorem d_S_isSecond_10 : decode b_S_isSecond 10 = .ok (.lcmp, 1) := by decide +kernel
theorem d_S_isSecond_11 : decode b_S_isSecond 11 = .ok (.ifCond .gt 7, 3) := by decide +kernel
theorem d_S_isSecond_14 : decode b_S_isSecond 14 = .ok (.iconst 1, 1) := by decide +kernel
theorem d_S_isSecond_15 : decode b_S_isSecond 15 = .ok (.goto 4, 3) := by decide +kernel
theorem d_S_isSecond_18 : decode b_S_isSecond 18 = .ok (.iconst 0, 1) := by decide +kernel
theorem d_S_isSecond_19 : decode b_S_isSecond 19 = .ok (.ireturn, 1) := by decide +kernel
def F_S_isSecond (a0 : Int64) (mm : gM) : Option (Int32 × gM) :=
  if a0 < (0 : Int64) then (
    some ((0 : Int32), mm))
  else (
    if (1000000000 : Int64) < a0 then (
      some ((0 : Int32), mm))
    else (
      some ((1 : Int32), mm)))
set_option maxHeartbeats 8000000 in
set_option maxRecDepth 100000 in
theorem w_S_isSecond {l : Launch} {E : gD} {n0 s0 : Nat} {a0 : Int64} {r : Int32} {mm res : gM} (h : F_S_isSecond a0 mm = some (r, res)) : xX l E Y_S_isSecond n0 s0 (some (.int r)) res 0 [(0, .inr (.inl a0))] [] mm := by
  unfold F_S_isSecond at h
  refine x_lloadn 0 0 d_S_isSecond_0 rfl rfl ?_
  refine x_lconst 1 d_S_isSecond_1 (v := (0 : Int64)) (by decide +kernel) ?_
  refine x_lc_lt 2 18 d_S_isSecond_2 d_S_isSecond_3 (by decide) (fun c1 => ?_) (fun c1 => ?_)
  · replace h := gif_t h c1
    refine x_iconst 18 d_S_isSecond_18 (v := (0 : Int32)) (by decide +kernel) ?_
    cases h
    exact x_zreturn 19 (by decide) rfl d_S_isSecond_19
  · replace h := gif_f h c1
    refine x_lloadn 6 0 d_S_isSecond_6 rfl rfl ?_
    refine x_ldc2 7 d_S_isSecond_7 (v := (1000000000 : Int64)) (gT_in1 61 rfl) ?_
    refine x_lc_gt 10 18 d_S_isSecond_10 d_S_isSecond_11 (by decide) (fun c2 => ?_) (fun c2 => ?_)
    · replace h := gif_t h c2
      refine x_iconst 18 d_S_isSecond_18 (v := (0 : Int32)) (by decide +kernel) ?_
      cases h
      exact x_zreturn 19 (by decide) rfl d_S_isSecond_19
    · replace h := gif_f h c2
      refine x_iconst 14 d_S_isSecond_14 (v := (1 : Int32)) (by decide +kernel) ?_
      refine x_goto 15 19 d_S_isSecond_15 (by decide) ?_
      cases h
      exact x_zreturn 19 (by decide) rfl d_S_isSecond_19
theorem k_S_isSecond {a0 : Int64} {r : Int32} {mm res : gM} (h : F_S_isSecond a0 mm = some (r, res)) : ∀ (l : Launch) (E : gD), gLe mm res ∧ gMet l E Y_S_isSecond y_S_isSecond [.inr (.inl a0)] (some (.int r)) mm res :=
  fun l E => ⟨(w_S_isSecond (l := l) (E := E) (n0 := 0) (s0 := 0) h).1, x_met (by decide +kernel) rfl rfl rfl (Nat.le_of_ble_eq_true rfl) (w_S_isSecond h)⟩
