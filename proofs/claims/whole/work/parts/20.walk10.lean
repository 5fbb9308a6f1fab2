-- M_valueOf M_isConflict
theorem d_M_valueOf_0 : decode b_M_valueOf 0 = .ok (.aload_n 0, 1) := by decide +kernel
theorem d_M_valueOf_1 : decode b_M_valueOf 1 = .ok (.iload_n 1, 1) := by decide +kernel
theorem d_M_valueOf_2 : decode b_M_valueOf 2 = .ok (.iload_n 2, 1) := by decide +kernel
theorem d_M_valueOf_3 : decode b_M_valueOf 3 = .ok (.iload_n 3, 1) := by decide +kernel
theorem d_M_valueOf_4 : decode b_M_valueOf 4 = .ok (.iload 4, 2) := by decide +kernel
theorem d_M_valueOf_6 : decode b_M_valueOf 6 = .ok (.invokevirtual 120, 3) := by decide +kernel
theorem d_M_valueOf_9 : decode b_M_valueOf 9 = .ok (.ifCond .ne 7, 3) := by decide +kernel
theorem d_M_valueOf_12 : decode b_M_valueOf 12 = .ok (.ldc2_w 124, 3) := by decide +kernel
theorem d_M_valueOf_15 : decode b_M_valueOf 15 = .ok (.lreturn, 1) := by decide +kernel
theorem d_M_valueOf_16 : decode b_M_valueOf 16 = .ok (.ldc2_w 124, 3) := by decide +kernel
theorem d_M_valueOf_19 : decode b_M_valueOf 19 = .ok (.lstore 5, 2) := by decide +kernel
theorem d_M_valueOf_21 : decode b_M_valueOf 21 = .ok (.iconst 1, 1) := by decide +kernel
theorem d_M_valueOf_22 : decode b_M_valueOf 22 = .ok (.istore 7, 2) := by decide +kernel
theorem d_M_valueOf_24 : decode b_M_valueOf 24 = .ok (.iconst 0, 1) := by decide +kernel
theorem d_M_valueOf_25 : decode b_M_valueOf 25 = .ok (.istore 8, 2) := by decide +kernel
theorem d_M_valueOf_27 : decode b_M_valueOf 27 = .ok (.iload 8, 2) := by decide +kernel
theorem d_M_valueOf_29 : decode b_M_valueOf 29 = .ok (.aload_n 0, 1) := by decide +kernel
theorem d_M_valueOf_30 : decode b_M_valueOf 30 = .ok (.getfield 89, 3) := by decide +kernel
theorem d_M_valueOf_33 : decode b_M_valueOf 33 = .ok (.if_icmp .ge 62, 3) := by decide +kernel
theorem d_M_valueOf_36 : decode b_M_valueOf 36 = .ok (.aload_n 0, 1) := by decide +kernel
theorem d_M_valueOf_37 : decode b_M_valueOf 37 = .ok (.getfield 79, 3) := by decide +kernel
theorem d_M_valueOf_40 : decode b_M_valueOf 40 = .ok (.iload 8, 2) := by decide +kernel
theorem d_M_valueOf_42 : decode b_M_valueOf 42 = .ok (.baload, 1) := by decide +kernel
theorem d_M_valueOf_43 : decode b_M_valueOf 43 = .ok (.ifCond .eq 46, 3) := by decide +kernel
theorem d_M_valueOf_46 : decode b_M_valueOf 46 = .ok (.iload 7, 2) := by decide +kernel
theorem d_M_valueOf_48 : decode b_M_valueOf 48 = .ok (.ifCond .eq 29, 3) := by decide +kernel
theorem d_M_valueOf_51 : decode b_M_valueOf 51 = .ok (.lload 5, 2) := by decide +kernel
theorem d_M_valueOf_53 : decode b_M_valueOf 53 = .ok (.ldc2_w 124, 3) := by decide +kernel
theorem d_M_valueOf_56 : decode b_M_valueOf 56 = .ok (.lcmp, 1) := by decide +kernel
theorem d_M_valueOf_57 : decode b_M_valueOf 57 = .ok (.ifCond .eq 16, 3) := by decide +kernel
theorem d_M_valueOf_60 : decode b_M_valueOf 60 = .ok (.lload 5, 2) := by decide +kernel
theorem d_M_valueOf_62 : decode b_M_valueOf 62 = .ok (.aload_n 0, 1) := by decide +kernel
theorem d_M_valueOf_63 : decode b_M_valueOf 63 = .ok (.getfield 26, 3) := by decide +kernel
theorem d_M_valueOf_66 : decode b_M_valueOf 66 = .ok (.iload 8, 2) := by decide +kernel
theorem d_M_valueOf_68 : decode b_M_valueOf 68 = .ok (.laload, 1) := by decide +kernel
theorem d_M_valueOf_69 : decode b_M_valueOf 69 = .ok (.lcmp, 1) := by decide +kernel
theorem d_M_valueOf_70 : decode b_M_valueOf 70 = .ok (.ifCond .ne 7, 3) := by decide +kernel
theorem d_M_valueOf_73 : decode b_M_valueOf 73 = .ok (.iconst 1, 1) := by decide +kernel
theorem d_M_valueOf_74 : decode b_M_valueOf 74 = .ok (.goto 4, 3) := by decide +kernel
theorem d_M_valueOf_77 : decode b_M_valueOf 77 = .ok (.iconst 0, 1) := by decide +kernel
theorem d_M_valueOf_78 : decode b_M_valueOf 78 = .ok (.istore 7, 2) := by decide +kernel
theorem d_M_valueOf_80 : decode b_M_valueOf 80 = .ok (.aload_n 0, 1) := by decide +kernel
theorem d_M_valueOf_81 : decode b_M_valueOf 81 = .ok (.getfield 26, 3) := by decide +kernel
theorem d_M_valueOf_84 : decode b_M_valueOf 84 = .ok (.iload 8, 2) := by decide +kernel
theorem d_M_valueOf_86 : decode b_M_valueOf 86 = .ok (.laload, 1) := by decide +kernel
theorem d_M_valueOf_87 : decode b_M_valueOf 87 = .ok (.lstore 5, 2) := by decide +kernel
theorem d_M_valueOf_89 : decode b_M_valueOf 89 = .ok (.iinc 8 1, 3) := by decide +kernel
theorem d_M_valueOf_92 : decode b_M_valueOf 92 = .ok (.goto (-65), 3) := by decide +kernel
theorem d_M_valueOf_95 : decode b_M_valueOf 95 = .ok (.iload 7, 2) := by decide +kernel
theorem d_M_valueOf_97 : decode b_M_valueOf 97 = .ok (.ifCond .eq 6, 3) := by decide +kernel
theorem d_M_valueOf_100 : decode b_M_valueOf 100 = .ok (.lload 5, 2) := by decide +kernel
theorem d_M_valueOf_102 : decode b_M_valueOf 102 = .ok (.lreturn, 1) := by decide +kernel
theorem d_M_valueOf_103 : decode b_M_valueOf 103 = .ok (.ldc2_w 124, 3) := by decide +kernel
theorem d_M_valueOf_106 : decode b_M_valueOf 106 = .ok (.lstore 8, 2) := by decide +kernel
theorem d_M_valueOf_108 : decode b_M_valueOf 108 = .ok (.iconst 0, 1) := by decide +kernel
theorem d_M_valueOf_109 : decode b_M_valueOf 109 = .ok (.istore 10, 2) := by decide +kernel
theorem d_M_valueOf_111 : decode b_M_valueOf 111 = .ok (.iload 10, 2) := by decide +kernel
theorem d_M_valueOf_113 : decode b_M_valueOf 113 = .ok (.aload_n 0, 1) := by decide +kernel
theorem d_M_valueOf_114 : decode b_M_valueOf 114 = .ok (.getfield 126, 3) := by decide +kernel
theorem d_M_valueOf_117 : decode b_M_valueOf 117 = .ok (.if_icmp .ge 80, 3) := by decide +kernel
theorem d_M_valueOf_120 : decode b_M_valueOf 120 = .ok (.aload_n 0, 1) := by decide +kernel
theorem d_M_valueOf_121 : decode b_M_valueOf 121 = .ok (.iload_n 1, 1) := by decide +kernel
theorem d_M_valueOf_122 : decode b_M_valueOf 122 = .ok (.iload 10, 2) := by decide +kernel
theorem d_M_valueOf_124 : decode b_M_valueOf 124 = .ok (.iload_n 2, 1) := by decide +kernel
theorem d_M_valueOf_125 : decode b_M_valueOf 125 = .ok (.iload_n 3, 1) := by decide +kernel
theorem d_M_valueOf_126 : decode b_M_valueOf 126 = .ok (.invokevirtual 129, 3) := by decide +kernel
theorem d_M_valueOf_129 : decode b_M_valueOf 129 = .ok (.ifCond .eq 62, 3) := by decide +kernel
theorem d_M_valueOf_132 : decode b_M_valueOf 132 = .ok (.iconst 0, 1) := by decide +kernel
theorem d_M_valueOf_133 : decode b_M_valueOf 133 = .ok (.istore 11, 2) := by decide +kernel
theorem d_M_valueOf_135 : decode b_M_valueOf 135 = .ok (.iload 11, 2) := by decide +kernel
theorem d_M_valueOf_137 : decode b_M_valueOf 137 = .ok (.aload_n 0, 1) := by decide +kernel
theorem d_M_valueOf_138 : decode b_M_valueOf 138 = .ok (.getfield 89, 3) := by decide +kernel
theorem d_M_valueOf_141 : decode b_M_valueOf 141 = .ok (.if_icmp .ge 50, 3) := by decide +kernel
theorem d_M_valueOf_144 : decode b_M_valueOf 144 = .ok (.aload_n 0, 1) := by decide +kernel
theorem d_M_valueOf_145 : decode b_M_valueOf 145 = .ok (.getfield 79, 3) := by decide +kernel
theorem d_M_valueOf_148 : decode b_M_valueOf 148 = .ok (.iload 11, 2) := by decide +kernel
theorem d_M_valueOf_150 : decode b_M_valueOf 150 = .ok (.baload, 1) := by decide +kernel
theorem d_M_valueOf_151 : decode b_M_valueOf 151 = .ok (.ifCond .eq 30, 3) := by decide +kernel
theorem d_M_valueOf_154 : decode b_M_valueOf 154 = .ok (.aload_n 0, 1) := by decide +kernel
theorem d_M_valueOf_155 : decode b_M_valueOf 155 = .ok (.getfield 13, 3) := by decide +kernel
theorem d_M_valueOf_158 : decode b_M_valueOf 158 = .ok (.iload 11, 2) := by decide +kernel
theorem d_M_valueOf_160 : decode b_M_valueOf 160 = .ok (.iaload, 1) := by decide +kernel
theorem d_M_valueOf_161 : decode b_M_valueOf 161 = .ok (.aload_n 0, 1) := by decide +kernel
theorem d_M_valueOf_162 : decode b_M_valueOf 162 = .ok (.getfield 48, 3) := by decide +kernel
theorem d_M_valueOf_165 : decode b_M_valueOf 165 = .ok (.iload 10, 2) := by decide +kernel
theorem d_M_valueOf_167 : decode b_M_valueOf 167 = .ok (.iaload, 1) := by decide +kernel
theorem d_M_valueOf_168 : decode b_M_valueOf 168 = .ok (.if_icmp .ne 13, 3) := by decide +kernel
theorem d_M_valueOf_171 : decode b_M_valueOf 171 = .ok (.aload_n 0, 1) := by decide +kernel
theorem d_M_valueOf_172 : decode b_M_valueOf 172 = .ok (.getfield 26, 3) := by decide +kernel
theorem d_M_valueOf_175 : decode b_M_valueOf 175 = .ok (.iload 11, 2) := by decide +kernel
theorem d_M_valueOf_177 : decode b_M_valueOf 177 = .ok (.laload, 1) := by decide +kernel
theorem d_M_valueOf_178 : decode b_M_valueOf 178 = .ok (.goto 5, 3) := by decide +kernel
theorem d_M_valueOf_181 : decode b_M_valueOf 181 = .ok (.lload 8, 2) := by decide +kernel
theorem d_M_valueOf_183 : decode b_M_valueOf 183 = .ok (.lstore 8, 2) := by decide +kernel
theorem d_M_valueOf_185 : decode b_M_valueOf 185 = .ok (.iinc 11 1, 3) := by decide +kernel
theorem d_M_valueOf_188 : decode b_M_valueOf 188 = .ok (.goto (-53), 3) := by decide +kernel
theorem d_M_valueOf_191 : decode b_M_valueOf 191 = .ok (.iinc 10 1, 3) := by decide +kernel
theorem d_M_valueOf_194 : decode b_M_valueOf 194 = .ok (.goto (-83), 3) := by decide +kernel
theorem d_M_valueOf_197 : decode b_M_valueOf 197 = .ok (.lload 8, 2) := by decide +kernel
theorem d_M_valueOf_199 : decode b_M_valueOf 199 = .ok (.lreturn, 1) := by decide +kernel
def L_M_valueOf_27 (k95 : Option Nat → Int32 → Int32 → Int32 → Int64 → Int32 → gM → Option (Int64 × gM)) : Nat → Option Nat → Int32 → Int32 → Int32 → Int64 → Int32 → Int32 → gM → Option (Int64 × gM)
  | 0, _, _, _, _, _, _, _, _ => none
  | f + 1, p0, p1, p2, p3, p5, p7, p8, mm =>
    gb1 (gfI 10 2 p0 mm) fun v7 =>
    if v7 ≤ p8 then (
      k95 p0 p1 p2 p3 p5 p7 mm)
    else (
      gb1 (gfR 10 26 p0 mm) fun v10 =>
      gb1 (gaI 2 v10 p8 mm) fun v12 =>
      if v12 = 0 then (
        gLet (p8 + 1) fun x15 =>
        L_M_valueOf_27 k95 f p0 p1 p2 p3 p5 p7 x15 mm)
      else (
        gLet (fun (p0 : Option Nat) (p1 : Int32) (p2 : Int32) (p3 : Int32) (p8 : Int32) (q0 : Int32) (mm : gM) =>
          gb1 (gfR 10 7 p0 mm) fun v16 =>
          gb1 (gaL 1 v16 p8 mm) fun v18 =>
          gLet (p8 + 1) fun x20 =>
          L_M_valueOf_27 k95 f p0 p1 p2 p3 v18 q0 x20 mm) fun J78 =>
        gLet (fun (p0 : Option Nat) (p1 : Int32) (p2 : Int32) (p3 : Int32) (p8 : Int32) (mm : gM) =>
          J78 p0 p1 p2 p3 p8 (0 : Int32) mm) fun J77 =>
        if p7 = 0 then (
          J77 p0 p1 p2 p3 p8 mm)
        else (
          if p5 = (-9223372036854775808 : Int64) then (
            J78 p0 p1 p2 p3 p8 (1 : Int32) mm)
          else (
            gb1 (gfR 10 7 p0 mm) fun v23 =>
            gb1 (gaL 1 v23 p8 mm) fun v25 =>
            if p5 = v25 then (
              J78 p0 p1 p2 p3 p8 (1 : Int32) mm)
            else (
              J77 p0 p1 p2 p3 p8 mm)))))
set_option maxHeartbeats 4000000 in
set_option maxRecDepth 100000 in
theorem wL_M_valueOf_27 {l : Launch} {E : gD} {n0 s0 : Nat} {r : Int64} {res : gM} {k95 : Option Nat → Int32 → Int32 → Int32 → Int64 → Int32 → gM → Option (Int64 × gM)} (hk95 : ∀ (p0 : Option Nat) (p1 : Int32) (p2 : Int32) (p3 : Int32) (p5 : Int64) (p7 : Int32) (mm : gM), k95 p0 p1 p2 p3 p5 p7 mm = some (r, res) → xX l E Y_M_valueOf n0 s0 (some (.long r)) res 95 [(0, .inr (.inr p0)), (1, .inl p1), (2, .inl p2), (3, .inl p3), (5, .inr (.inl p5)), (7, .inl p7)] [] mm) : ∀ (f : Nat) (p0 : Option Nat) (p1 : Int32) (p2 : Int32) (p3 : Int32) (p5 : Int64) (p7 : Int32) (p8 : Int32) (mm : gM), L_M_valueOf_27 k95 f p0 p1 p2 p3 p5 p7 p8 mm = some (r, res) → xX l E Y_M_valueOf n0 s0 (some (.long r)) res 27 [(0, .inr (.inr p0)), (1, .inl p1), (2, .inl p2), (3, .inl p3), (5, .inr (.inl p5)), (7, .inl p7), (8, .inl p8)] [] mm := by
  intro f
  induction f with
  | zero =>
    intro p0 p1 p2 p3 p5 p7 p8 mm h
    rw [L_M_valueOf_27] at h
    cases h
  | succ f ih =>
    intro p0 p1 p2 p3 p5 p7 p8 mm h
    rw [L_M_valueOf_27] at h
    refine x_iload 27 6 d_M_valueOf_27 rfl ?_
    refine x_aloadn 29 0 d_M_valueOf_29 rfl rfl ?_
    replace h := gb1_elim h; obtain ⟨v7, h8, h⟩ := h
    refine x_getI 30 h8 fl_M_89 d_M_valueOf_30 ?_
    refine x_icmp_ge 33 95 d_M_valueOf_33 (by decide) (fun c9 => ?_) (fun c9 => ?_)
    · replace h := gif_t h c9
      refine x_sub [0, 1, 2, 3, 4, 5] rfl ?_
      exact hk95 _ _ _ _ _ _ _ h
    · replace h := gif_f h c9
      refine x_aloadn 36 0 d_M_valueOf_36 rfl rfl ?_
      replace h := gb1_elim h; obtain ⟨v10, h11, h⟩ := h
      refine x_getR 37 h11 fl_M_79 d_M_valueOf_37 ?_
      refine x_iload 40 6 d_M_valueOf_40 rfl ?_
      replace h := gb1_elim h; obtain ⟨v12, h13, h⟩ := h
      refine x_zald 42 rfl h13 d_M_valueOf_42 ?_
      refine x_if_eq 43 89 d_M_valueOf_43 (by decide) (fun c14 => ?_) (fun c14 => ?_)
      · replace h := gif_t h c14
        replace h := gLet_elim h; obtain ⟨x15, ex15, h⟩ := h
        refine x_iinc 89 6 (v := x15) (lv' := [(8, .inl x15), (0, .inr (.inr p0)), (1, .inl p1), (2, .inl p2), (3, .inl p3), (5, .inr (.inl p5)), (7, .inl p7)]) d_M_valueOf_89 rfl (by rw [ex15]; rfl) (by decide) rfl ?_
        refine x_goto 92 27 d_M_valueOf_92 (by decide) ?_
        refine x_sub [1, 2, 3, 4, 5, 6, 0] rfl ?_
        exact ih _ _ _ _ _ _ _ _ h
      · replace h := gif_f h c14
        refine x_iload 46 5 d_M_valueOf_46 rfl ?_
        replace h := gLet_elim h; obtain ⟨J78, hJ78, h⟩ := h
        have kJ78 : ∀ (p0 : Option Nat) (p1 : Int32) (p2 : Int32) (p3 : Int32) (p8 : Int32) (q0 : Int32) (mm : gM), J78 p0 p1 p2 p3 p8 q0 mm = some (r, res) → xX l E Y_M_valueOf n0 s0 (some (.long r)) res 78 [(0, .inr (.inr p0)), (1, .inl p1), (2, .inl p2), (3, .inl p3), (8, .inl p8)] [.inl q0] mm := by
          intro p0 p1 p2 p3 p8 q0 mm h
          rw [hJ78] at h
          refine x_istore 78 (lv' := [(7, .inl q0), (0, .inr (.inr p0)), (1, .inl p1), (2, .inl p2), (3, .inl p3), (8, .inl p8)]) d_M_valueOf_78 (by decide) rfl ?_
          refine x_aloadn 80 1 d_M_valueOf_80 rfl rfl ?_
          replace h := gb1_elim h; obtain ⟨v16, h17, h⟩ := h
          refine x_getR 81 h17 fl_M_26 d_M_valueOf_81 ?_
          refine x_iload 84 5 d_M_valueOf_84 rfl ?_
          replace h := gb1_elim h; obtain ⟨v18, h19, h⟩ := h
          refine x_lald 86 rfl h19 d_M_valueOf_86 ?_
          refine x_lstore 87 (lv' := [(5, .inr (.inl v18)), (7, .inl q0), (0, .inr (.inr p0)), (1, .inl p1), (2, .inl p2), (3, .inl p3), (8, .inl p8)]) d_M_valueOf_87 (by decide) rfl ?_
          replace h := gLet_elim h; obtain ⟨x20, ex20, h⟩ := h
          refine x_iinc 89 6 (v := x20) (lv' := [(8, .inl x20), (5, .inr (.inl v18)), (7, .inl q0), (0, .inr (.inr p0)), (1, .inl p1), (2, .inl p2), (3, .inl p3)]) d_M_valueOf_89 rfl (by rw [ex20]; rfl) (by decide) rfl ?_
          refine x_goto 92 27 d_M_valueOf_92 (by decide) ?_
          refine x_sub [3, 4, 5, 6, 1, 2, 0] rfl ?_
          exact ih _ _ _ _ _ _ _ _ h
        replace h := gLet_elim h; obtain ⟨J77, hJ77, h⟩ := h
        have kJ77 : ∀ (p0 : Option Nat) (p1 : Int32) (p2 : Int32) (p3 : Int32) (p8 : Int32) (mm : gM), J77 p0 p1 p2 p3 p8 mm = some (r, res) → xX l E Y_M_valueOf n0 s0 (some (.long r)) res 77 [(0, .inr (.inr p0)), (1, .inl p1), (2, .inl p2), (3, .inl p3), (8, .inl p8)] [] mm := by
          intro p0 p1 p2 p3 p8 mm h
          rw [hJ77] at h
          refine x_iconst 77 d_M_valueOf_77 (v := (0 : Int32)) (by decide +kernel) ?_
          exact kJ78 _ _ _ _ _ _ _ h
        refine x_if_eq 48 77 d_M_valueOf_48 (by decide) (fun c21 => ?_) (fun c21 => ?_)
        · replace h := gif_t h c21
          refine x_sub [0, 1, 2, 3, 6] rfl ?_
          exact kJ77 _ _ _ _ _ _ h
        · replace h := gif_f h c21
          refine x_lload 51 4 d_M_valueOf_51 rfl ?_
          refine x_ldc2 53 d_M_valueOf_53 (v := (-9223372036854775808 : Int64)) (gT_in4 14 rfl) ?_
          refine x_lc_eq 56 73 d_M_valueOf_56 d_M_valueOf_57 (by decide) (fun c22 => ?_) (fun c22 => ?_)
          · replace h := gif_t h c22
            refine x_iconst 73 d_M_valueOf_73 (v := (1 : Int32)) (by decide +kernel) ?_
            refine x_goto 74 78 d_M_valueOf_74 (by decide) ?_
            refine x_sub [0, 1, 2, 3, 6] rfl ?_
            exact kJ78 _ _ _ _ _ _ _ h
          · replace h := gif_f h c22
            refine x_lload 60 4 d_M_valueOf_60 rfl ?_
            refine x_aloadn 62 0 d_M_valueOf_62 rfl rfl ?_
            replace h := gb1_elim h; obtain ⟨v23, h24, h⟩ := h
            refine x_getR 63 h24 fl_M_26 d_M_valueOf_63 ?_
            refine x_iload 66 6 d_M_valueOf_66 rfl ?_
            replace h := gb1_elim h; obtain ⟨v25, h26, h⟩ := h
            refine x_lald 68 rfl h26 d_M_valueOf_68 ?_
            refine x_lc_ne 69 77 d_M_valueOf_69 d_M_valueOf_70 (by decide) (fun c27 => ?_) (fun c27 => ?_)
            · replace h := gif_t h c27
              refine x_iconst 73 d_M_valueOf_73 (v := (1 : Int32)) (by decide +kernel) ?_
              refine x_goto 74 78 d_M_valueOf_74 (by decide) ?_
              refine x_sub [0, 1, 2, 3, 6] rfl ?_
              exact kJ78 _ _ _ _ _ _ _ h
            · replace h := gif_f h c27
              refine x_sub [0, 1, 2, 3, 6] rfl ?_
              exact kJ77 _ _ _ _ _ _ h
def L_M_valueOf_135 (k191 : Option Nat → Int32 → Int32 → Int32 → Int64 → Int32 → gM → Option (Int64 × gM)) : Nat → Option Nat → Int32 → Int32 → Int32 → Int64 → Int32 → Int32 → gM → Option (Int64 × gM)
  | 0, _, _, _, _, _, _, _, _ => none
  | f + 1, p0, p1, p2, p3, p8, p10, p11, mm =>
    gb1 (gfI 10 2 p0 mm) fun v39 =>
    if v39 ≤ p11 then (
      k191 p0 p1 p2 p3 p8 p10 mm)
    else (
      gb1 (gfR 10 26 p0 mm) fun v42 =>
      gb1 (gaI 2 v42 p11 mm) fun v44 =>
      if v44 = 0 then (
        gLet (p11 + 1) fun x47 =>
        L_M_valueOf_135 k191 f p0 p1 p2 p3 p8 p10 x47 mm)
      else (
        gb1 (gfR 10 3 p0 mm) fun v48 =>
        gb1 (gaI 0 v48 p11 mm) fun v50 =>
        gb1 (gfR 10 16 p0 mm) fun v52 =>
        gb1 (gaI 0 v52 p10 mm) fun v54 =>
        if v50 = v54 then (
          gb1 (gfR 10 7 p0 mm) fun v57 =>
          gb1 (gaL 1 v57 p11 mm) fun v59 =>
          gLet (p11 + 1) fun x61 =>
          L_M_valueOf_135 k191 f p0 p1 p2 p3 v59 p10 x61 mm)
        else (
          gLet (p11 + 1) fun x62 =>
          L_M_valueOf_135 k191 f p0 p1 p2 p3 p8 p10 x62 mm)))
set_option maxHeartbeats 4000000 in
set_option maxRecDepth 100000 in
theorem wL_M_valueOf_135 {l : Launch} {E : gD} {n0 s0 : Nat} {r : Int64} {res : gM} {k191 : Option Nat → Int32 → Int32 → Int32 → Int64 → Int32 → gM → Option (Int64 × gM)} (hk191 : ∀ (p0 : Option Nat) (p1 : Int32) (p2 : Int32) (p3 : Int32) (p8 : Int64) (p10 : Int32) (mm : gM), k191 p0 p1 p2 p3 p8 p10 mm = some (r, res) → xX l E Y_M_valueOf n0 s0 (some (.long r)) res 191 [(0, .inr (.inr p0)), (1, .inl p1), (2, .inl p2), (3, .inl p3), (8, .inr (.inl p8)), (10, .inl p10)] [] mm) : ∀ (f : Nat) (p0 : Option Nat) (p1 : Int32) (p2 : Int32) (p3 : Int32) (p8 : Int64) (p10 : Int32) (p11 : Int32) (mm : gM), L_M_valueOf_135 k191 f p0 p1 p2 p3 p8 p10 p11 mm = some (r, res) → xX l E Y_M_valueOf n0 s0 (some (.long r)) res 135 [(0, .inr (.inr p0)), (1, .inl p1), (2, .inl p2), (3, .inl p3), (8, .inr (.inl p8)), (10, .inl p10), (11, .inl p11)] [] mm := by
  intro f
  induction f with
  | zero =>
    intro p0 p1 p2 p3 p8 p10 p11 mm h
    rw [L_M_valueOf_135] at h
    cases h
  | succ f ih =>
    intro p0 p1 p2 p3 p8 p10 p11 mm h
    rw [L_M_valueOf_135] at h
    refine x_iload 135 6 d_M_valueOf_135 rfl ?_
    refine x_aloadn 137 0 d_M_valueOf_137 rfl rfl ?_
    replace h := gb1_elim h; obtain ⟨v39, h40, h⟩ := h
    refine x_getI 138 h40 fl_M_89 d_M_valueOf_138 ?_
    refine x_icmp_ge 141 191 d_M_valueOf_141 (by decide) (fun c41 => ?_) (fun c41 => ?_)
    · replace h := gif_t h c41
      refine x_sub [0, 1, 2, 3, 4, 5] rfl ?_
      exact hk191 _ _ _ _ _ _ _ h
    · replace h := gif_f h c41
      refine x_aloadn 144 0 d_M_valueOf_144 rfl rfl ?_
      replace h := gb1_elim h; obtain ⟨v42, h43, h⟩ := h
      refine x_getR 145 h43 fl_M_79 d_M_valueOf_145 ?_
      refine x_iload 148 6 d_M_valueOf_148 rfl ?_
      replace h := gb1_elim h; obtain ⟨v44, h45, h⟩ := h
      refine x_zald 150 rfl h45 d_M_valueOf_150 ?_
      refine x_if_eq 151 181 d_M_valueOf_151 (by decide) (fun c46 => ?_) (fun c46 => ?_)
      · replace h := gif_t h c46
        refine x_lload 181 4 d_M_valueOf_181 rfl ?_
        refine x_lstore 183 (lv' := [(8, .inr (.inl p8)), (0, .inr (.inr p0)), (1, .inl p1), (2, .inl p2), (3, .inl p3), (10, .inl p10), (11, .inl p11)]) d_M_valueOf_183 (by decide) rfl ?_
        replace h := gLet_elim h; obtain ⟨x47, ex47, h⟩ := h
        refine x_iinc 185 6 (v := x47) (lv' := [(11, .inl x47), (8, .inr (.inl p8)), (0, .inr (.inr p0)), (1, .inl p1), (2, .inl p2), (3, .inl p3), (10, .inl p10)]) d_M_valueOf_185 rfl (by rw [ex47]; rfl) (by decide) rfl ?_
        refine x_goto 188 135 d_M_valueOf_188 (by decide) ?_
        refine x_sub [2, 3, 4, 5, 1, 6, 0] rfl ?_
        exact ih _ _ _ _ _ _ _ _ h
      · replace h := gif_f h c46
        refine x_aloadn 154 0 d_M_valueOf_154 rfl rfl ?_
        replace h := gb1_elim h; obtain ⟨v48, h49, h⟩ := h
        refine x_getR 155 h49 fl_M_13 d_M_valueOf_155 ?_
        refine x_iload 158 6 d_M_valueOf_158 rfl ?_
        replace h := gb1_elim h; obtain ⟨v50, h51, h⟩ := h
        refine x_iald 160 rfl h51 d_M_valueOf_160 ?_
        refine x_aloadn 161 0 d_M_valueOf_161 rfl rfl ?_
        replace h := gb1_elim h; obtain ⟨v52, h53, h⟩ := h
        refine x_getR 162 h53 fl_M_48 d_M_valueOf_162 ?_
        refine x_iload 165 5 d_M_valueOf_165 rfl ?_
        replace h := gb1_elim h; obtain ⟨v54, h55, h⟩ := h
        refine x_iald 167 rfl h55 d_M_valueOf_167 ?_
        refine x_icmp_ne 168 181 d_M_valueOf_168 (by decide) (fun c56 => ?_) (fun c56 => ?_)
        · replace h := gif_t h c56
          refine x_aloadn 171 0 d_M_valueOf_171 rfl rfl ?_
          replace h := gb1_elim h; obtain ⟨v57, h58, h⟩ := h
          refine x_getR 172 h58 fl_M_26 d_M_valueOf_172 ?_
          refine x_iload 175 6 d_M_valueOf_175 rfl ?_
          replace h := gb1_elim h; obtain ⟨v59, h60, h⟩ := h
          refine x_lald 177 rfl h60 d_M_valueOf_177 ?_
          refine x_goto 178 183 d_M_valueOf_178 (by decide) ?_
          refine x_lstore 183 (lv' := [(8, .inr (.inl v59)), (0, .inr (.inr p0)), (1, .inl p1), (2, .inl p2), (3, .inl p3), (10, .inl p10), (11, .inl p11)]) d_M_valueOf_183 (by decide) rfl ?_
          replace h := gLet_elim h; obtain ⟨x61, ex61, h⟩ := h
          refine x_iinc 185 6 (v := x61) (lv' := [(11, .inl x61), (8, .inr (.inl v59)), (0, .inr (.inr p0)), (1, .inl p1), (2, .inl p2), (3, .inl p3), (10, .inl p10)]) d_M_valueOf_185 rfl (by rw [ex61]; rfl) (by decide) rfl ?_
          refine x_goto 188 135 d_M_valueOf_188 (by decide) ?_
          refine x_sub [2, 3, 4, 5, 1, 6, 0] rfl ?_
          exact ih _ _ _ _ _ _ _ _ h
        · replace h := gif_f h c56
          refine x_lload 181 4 d_M_valueOf_181 rfl ?_
          refine x_lstore 183 (lv' := [(8, .inr (.inl p8)), (0, .inr (.inr p0)), (1, .inl p1), (2, .inl p2), (3, .inl p3), (10, .inl p10), (11, .inl p11)]) d_M_valueOf_183 (by decide) rfl ?_
          replace h := gLet_elim h; obtain ⟨x62, ex62, h⟩ := h
          refine x_iinc 185 6 (v := x62) (lv' := [(11, .inl x62), (8, .inr (.inl p8)), (0, .inr (.inr p0)), (1, .inl p1), (2, .inl p2), (3, .inl p3), (10, .inl p10)]) d_M_valueOf_185 rfl (by rw [ex62]; rfl) (by decide) rfl ?_
          refine x_goto 188 135 d_M_valueOf_188 (by decide) ?_
          refine x_sub [2, 3, 4, 5, 1, 6, 0] rfl ?_
          exact ih _ _ _ _ _ _ _ _ h
def L_M_valueOf_111 (k197 : Int64 → gM → Option (Int64 × gM)) : Nat → Option Nat → Int32 → Int32 → Int32 → Int64 → Int32 → gM → Option (Int64 × gM)
  | 0, _, _, _, _, _, _, _ => none
  | f + 1, p0, p1, p2, p3, p8, p10, mm =>
    gb1 (gfI 10 13 p0 mm) fun v29 =>
    if v29 ≤ p10 then (
      k197 p8 mm)
    else (
      gb1 (grc 10 p0 mm) fun b35 =>
      gb2 (F_M_counts b35 p1 p10 p2 p3 mm) fun v32 mm33 =>
      if v32 = 0 then (
        gLet (p10 + 1) fun x38 =>
        L_M_valueOf_111 k197 f p0 p1 p2 p3 p8 x38 mm33)
      else (
        L_M_valueOf_135 (fun p0 p1 p2 p3 p8 p10 mm =>
          gLet (p10 + 1) fun x63 =>
          L_M_valueOf_111 k197 f p0 p1 p2 p3 p8 x63 mm) gF p0 p1 p2 p3 p8 p10 (0 : Int32) mm33))
set_option maxHeartbeats 4000000 in
set_option maxRecDepth 100000 in
theorem wL_M_valueOf_111 {l : Launch} {E : gD} {n0 s0 : Nat} {r : Int64} {res : gM} {k197 : Int64 → gM → Option (Int64 × gM)} (hk197 : ∀ (p8 : Int64) (mm : gM), k197 p8 mm = some (r, res) → xX l E Y_M_valueOf n0 s0 (some (.long r)) res 197 [(8, .inr (.inl p8))] [] mm) : ∀ (f : Nat) (p0 : Option Nat) (p1 : Int32) (p2 : Int32) (p3 : Int32) (p8 : Int64) (p10 : Int32) (mm : gM), L_M_valueOf_111 k197 f p0 p1 p2 p3 p8 p10 mm = some (r, res) → xX l E Y_M_valueOf n0 s0 (some (.long r)) res 111 [(0, .inr (.inr p0)), (1, .inl p1), (2, .inl p2), (3, .inl p3), (8, .inr (.inl p8)), (10, .inl p10)] [] mm := by
  intro f
  induction f with
  | zero =>
    intro p0 p1 p2 p3 p8 p10 mm h
    rw [L_M_valueOf_111] at h
    cases h
  | succ f ih =>
    intro p0 p1 p2 p3 p8 p10 mm h
    rw [L_M_valueOf_111] at h
    refine x_iload 111 5 d_M_valueOf_111 rfl ?_
    refine x_aloadn 113 0 d_M_valueOf_113 rfl rfl ?_
    replace h := gb1_elim h; obtain ⟨v29, h30, h⟩ := h
    refine x_getI 114 h30 fl_M_126 d_M_valueOf_114 ?_
    refine x_icmp_ge 117 197 d_M_valueOf_117 (by decide) (fun c31 => ?_) (fun c31 => ?_)
    · replace h := gif_t h c31
      refine x_sub [4] rfl ?_
      exact hk197 _ _ h
    · replace h := gif_f h c31
      refine x_aloadn 120 0 d_M_valueOf_120 rfl rfl ?_
      refine x_iloadn 121 1 d_M_valueOf_121 rfl rfl ?_
      refine x_iload 122 5 d_M_valueOf_122 rfl ?_
      refine x_iloadn 124 2 d_M_valueOf_124 rfl rfl ?_
      refine x_iloadn 125 3 d_M_valueOf_125 rfl rfl ?_
      replace h := gb1_elim h; obtain ⟨b35, h36, h⟩ := h
      replace h := gb2_elim h; obtain ⟨v32, mm33, h34, h⟩ := h
      refine x_callV 126 4 (as := [.inl p1, .inl p10, .inl p2, .inl p3]) (st' := []) (rs := [.inl v32]) (k_M_counts h34) rfl cf_M_129 ⟨rfl, by decide +kernel, by decide, by decide, Nat.le_of_ble_eq_true rfl⟩ h36 rfl d_M_valueOf_126 ?_
      refine x_if_eq 129 191 d_M_valueOf_129 (by decide) (fun c37 => ?_) (fun c37 => ?_)
      · replace h := gif_t h c37
        replace h := gLet_elim h; obtain ⟨x38, ex38, h⟩ := h
        refine x_iinc 191 5 (v := x38) (lv' := [(10, .inl x38), (0, .inr (.inr p0)), (1, .inl p1), (2, .inl p2), (3, .inl p3), (8, .inr (.inl p8))]) d_M_valueOf_191 rfl (by rw [ex38]; rfl) (by decide) rfl ?_
        refine x_goto 194 111 d_M_valueOf_194 (by decide) ?_
        refine x_sub [1, 2, 3, 4, 5, 0] rfl ?_
        exact ih _ _ _ _ _ _ _ h
      · replace h := gif_f h c37
        refine x_iconst 132 d_M_valueOf_132 (v := (0 : Int32)) (by decide +kernel) ?_
        refine x_istore 133 (lv' := [(11, .inl (0 : Int32)), (0, .inr (.inr p0)), (1, .inl p1), (2, .inl p2), (3, .inl p3), (8, .inr (.inl p8)), (10, .inl p10)]) d_M_valueOf_133 (by decide) rfl ?_
        refine x_sub [1, 2, 3, 4, 5, 6, 0] rfl ?_
        refine wL_M_valueOf_135 ?_ gF _ _ _ _ _ _ _ _ h
        · intro p0 p1 p2 p3 p8 p10 mm h
          replace h := gLet_elim h; obtain ⟨x63, ex63, h⟩ := h
          refine x_iinc 191 5 (v := x63) (lv' := [(10, .inl x63), (0, .inr (.inr p0)), (1, .inl p1), (2, .inl p2), (3, .inl p3), (8, .inr (.inl p8))]) d_M_valueOf_191 rfl (by rw [ex63]; rfl) (by decide) rfl ?_
          refine x_goto 194 111 d_M_valueOf_194 (by decide) ?_
          refine x_sub [1, 2, 3, 4, 5, 0] rfl ?_
          exact ih _ _ _ _ _ _ _ h
def F_M_valueOf (b : Nat) (a0 : Int32) (a1 : Int32) (a2 : Int32) (a3 : Int32) (mm : gM) : Option (Int64 × gM) :=
  gb1 (grc 10 (some b) mm) fun b4 =>
  gb2 (F_M_findCurrent b4 a0 a1 a2 a3 mm) fun v1 mm2 =>
  if v1 = 0 then (
    some ((-9223372036854775808 : Int64), mm2))
  else (
    L_M_valueOf_27 (fun p0 p1 p2 p3 p5 p7 mm =>
      if p7 = 0 then (
        L_M_valueOf_111 (fun p8 mm =>
          some (p8, mm)) gF p0 p1 p2 p3 (-9223372036854775808 : Int64) (0 : Int32) mm)
      else (
        some (p5, mm))) gF (some b) a0 a1 a2 (-9223372036854775808 : Int64) (1 : Int32) (0 : Int32) mm2)
set_option maxHeartbeats 8000000 in
set_option maxRecDepth 100000 in
theorem w_M_valueOf {l : Launch} {E : gD} {n0 s0 : Nat} {b : Nat} {a0 : Int32} {a1 : Int32} {a2 : Int32} {a3 : Int32} {r : Int64} {mm res : gM} (h : F_M_valueOf b a0 a1 a2 a3 mm = some (r, res)) : xX l E Y_M_valueOf n0 s0 (some (.long r)) res 0 [(0, .inr (.inr (some b))), (1, .inl a0), (2, .inl a1), (3, .inl a2), (4, .inl a3)] [] mm := by
  unfold F_M_valueOf at h
  refine x_aloadn 0 0 d_M_valueOf_0 rfl rfl ?_
  refine x_iloadn 1 1 d_M_valueOf_1 rfl rfl ?_
  refine x_iloadn 2 2 d_M_valueOf_2 rfl rfl ?_
  refine x_iloadn 3 3 d_M_valueOf_3 rfl rfl ?_
  refine x_iload 4 4 d_M_valueOf_4 rfl ?_
  replace h := gb1_elim h; obtain ⟨b4, h5, h⟩ := h
  replace h := gb2_elim h; obtain ⟨v1, mm2, h3, h⟩ := h
  refine x_callV 6 4 (as := [.inl a0, .inl a1, .inl a2, .inl a3]) (st' := []) (rs := [.inl v1]) (k_M_findCurrent h3) rfl cf_M_120 ⟨rfl, by decide +kernel, by decide, by decide, Nat.le_of_ble_eq_true rfl⟩ h5 rfl d_M_valueOf_6 ?_
  refine x_if_ne 9 16 d_M_valueOf_9 (by decide) (fun c6 => ?_) (fun c6 => ?_)
  · replace h := gif_t h c6
    refine x_ldc2 12 d_M_valueOf_12 (v := (-9223372036854775808 : Int64)) (gT_in4 14 rfl) ?_
    cases h
    exact x_lreturn 15 rfl d_M_valueOf_15
  · replace h := gif_f h c6
    refine x_ldc2 16 d_M_valueOf_16 (v := (-9223372036854775808 : Int64)) (gT_in4 14 rfl) ?_
    refine x_lstore 19 (lv' := [(5, .inr (.inl (-9223372036854775808 : Int64))), (0, .inr (.inr (some b))), (1, .inl a0), (2, .inl a1), (3, .inl a2), (4, .inl a3)]) d_M_valueOf_19 (by decide) rfl ?_
    refine x_iconst 21 d_M_valueOf_21 (v := (1 : Int32)) (by decide +kernel) ?_
    refine x_istore 22 (lv' := [(7, .inl (1 : Int32)), (5, .inr (.inl (-9223372036854775808 : Int64))), (0, .inr (.inr (some b))), (1, .inl a0), (2, .inl a1), (3, .inl a2), (4, .inl a3)]) d_M_valueOf_22 (by decide) rfl ?_
    refine x_iconst 24 d_M_valueOf_24 (v := (0 : Int32)) (by decide +kernel) ?_
    refine x_istore 25 (lv' := [(8, .inl (0 : Int32)), (7, .inl (1 : Int32)), (5, .inr (.inl (-9223372036854775808 : Int64))), (0, .inr (.inr (some b))), (1, .inl a0), (2, .inl a1), (3, .inl a2), (4, .inl a3)]) d_M_valueOf_25 (by decide) rfl ?_
    refine x_sub [3, 4, 5, 6, 2, 1, 0] rfl ?_
    refine wL_M_valueOf_27 ?_ gF _ _ _ _ _ _ _ _ h
    · intro p0 p1 p2 p3 p5 p7 mm h
      refine x_iload 95 5 d_M_valueOf_95 rfl ?_
      refine x_if_eq 97 103 d_M_valueOf_97 (by decide) (fun c28 => ?_) (fun c28 => ?_)
      · replace h := gif_t h c28
        refine x_ldc2 103 d_M_valueOf_103 (v := (-9223372036854775808 : Int64)) (gT_in4 14 rfl) ?_
        refine x_lstore 106 (lv' := [(8, .inr (.inl (-9223372036854775808 : Int64))), (0, .inr (.inr p0)), (1, .inl p1), (2, .inl p2), (3, .inl p3), (5, .inr (.inl p5)), (7, .inl p7)]) d_M_valueOf_106 (by decide) rfl ?_
        refine x_iconst 108 d_M_valueOf_108 (v := (0 : Int32)) (by decide +kernel) ?_
        refine x_istore 109 (lv' := [(10, .inl (0 : Int32)), (8, .inr (.inl (-9223372036854775808 : Int64))), (0, .inr (.inr p0)), (1, .inl p1), (2, .inl p2), (3, .inl p3), (5, .inr (.inl p5)), (7, .inl p7)]) d_M_valueOf_109 (by decide) rfl ?_
        refine x_sub [2, 3, 4, 5, 1, 0] rfl ?_
        refine wL_M_valueOf_111 ?_ gF _ _ _ _ _ _ _ h
        · intro p8 mm h
          refine x_lload 197 0 d_M_valueOf_197 rfl ?_
          cases h
          exact x_lreturn 199 rfl d_M_valueOf_199
      · replace h := gif_f h c28
        refine x_lload 100 4 d_M_valueOf_100 rfl ?_
        cases h
        exact x_lreturn 102 rfl d_M_valueOf_102
theorem k_M_valueOf {b : Nat} {a0 : Int32} {a1 : Int32} {a2 : Int32} {a3 : Int32} {r : Int64} {mm res : gM} (h : F_M_valueOf b a0 a1 a2 a3 mm = some (r, res)) : ∀ (l : Launch) (E : gD), gLe mm res ∧ gMet l E Y_M_valueOf y_M_valueOf [.inr (.inr (some b)), .inl a0, .inl a1, .inl a2, .inl a3] (some (.long r)) mm res :=
  fun l E => ⟨(w_M_valueOf (l := l) (E := E) (n0 := 0) (s0 := 0) h).1, x_met (by decide +kernel) rfl rfl rfl (Nat.le_of_ble_eq_true rfl) (w_M_valueOf h)⟩
theorem d_M_isConflict_0 : decode b_M_isConflict 0 = .ok (.aload_n 0, 1) := by decide +kernel
theorem d_M_isConflict_1 : decode b_M_isConflict 1 = .ok (.iload_n 1, 1) := by decide +kernel
theorem d_M_isConflict_2 : decode b_M_isConflict 2 = .ok (.iload_n 2, 1) := by decide +kernel
theorem d_M_isConflict_3 : decode b_M_isConflict 3 = .ok (.iload_n 3, 1) := by decide +kernel
theorem d_M_isConflict_4 : decode b_M_isConflict 4 = .ok (.ldc 140, 2) := by decide +kernel
theorem d_M_isConflict_6 : decode b_M_isConflict 6 = .ok (.invokevirtual 136, 3) := by decide +kernel
theorem d_M_isConflict_9 : decode b_M_isConflict 9 = .ok (.ldc2_w 124, 3) := by decide +kernel
theorem d_M_isConflict_12 : decode b_M_isConflict 12 = .ok (.lcmp, 1) := by decide +kernel
theorem d_M_isConflict_13 : decode b_M_isConflict 13 = .ok (.ifCond .ne 19, 3) := by decide +kernel
theorem d_M_isConflict_16 : decode b_M_isConflict 16 = .ok (.aload_n 0, 1) := by decide +kernel
theorem d_M_isConflict_17 : decode b_M_isConflict 17 = .ok (.iload_n 1, 1) := by decide +kernel
theorem d_M_isConflict_18 : decode b_M_isConflict 18 = .ok (.iload_n 2, 1) := by decide +kernel
theorem d_M_isConflict_19 : decode b_M_isConflict 19 = .ok (.iload_n 3, 1) := by decide +kernel
theorem d_M_isConflict_20 : decode b_M_isConflict 20 = .ok (.ldc 140, 2) := by decide +kernel
theorem d_M_isConflict_22 : decode b_M_isConflict 22 = .ok (.invokevirtual 120, 3) := by decide +kernel
theorem d_M_isConflict_25 : decode b_M_isConflict 25 = .ok (.ifCond .le 7, 3) := by decide +kernel
theorem d_M_isConflict_28 : decode b_M_isConflict 28 = .ok (.iconst 1, 1) := by decide +kernel
theorem d_M_isConflict_29 : decode b_M_isConflict 29 = .ok (.goto 4, 3) := by decide +kernel
theorem d_M_isConflict_32 : decode b_M_isConflict 32 = .ok (.iconst 0, 1) := by decide +kernel
theorem d_M_isConflict_33 : decode b_M_isConflict 33 = .ok (.ireturn, 1) := by decide +kernel
def F_M_isConflict (b : Nat) (a0 : Int32) (a1 : Int32) (a2 : Int32) (mm : gM) : Option (Int32 × gM) :=
  gb1 (grc 10 (some b) mm) fun b4 =>
  gb2 (F_M_valueOf b4 a0 a1 a2 (100000 : Int32) mm) fun v1 mm2 =>
  if v1 = (-9223372036854775808 : Int64) then (
    gb1 (grc 10 (some b) mm2) fun b10 =>
    gb2 (F_M_findCurrent b10 a0 a1 a2 (100000 : Int32) mm2) fun v7 mm8 =>
    if v7 ≤ 0 then (
      some ((0 : Int32), mm8))
    else (
      some ((1 : Int32), mm8)))
  else (
    some ((0 : Int32), mm2))
set_option maxHeartbeats 8000000 in
set_option maxRecDepth 100000 in
theorem w_M_isConflict {l : Launch} {E : gD} {n0 s0 : Nat} {b : Nat} {a0 : Int32} {a1 : Int32} {a2 : Int32} {r : Int32} {mm res : gM} (h : F_M_isConflict b a0 a1 a2 mm = some (r, res)) : xX l E Y_M_isConflict n0 s0 (some (.int r)) res 0 [(0, .inr (.inr (some b))), (1, .inl a0), (2, .inl a1), (3, .inl a2)] [] mm := by
  unfold F_M_isConflict at h
  refine x_aloadn 0 0 d_M_isConflict_0 rfl rfl ?_
  refine x_iloadn 1 1 d_M_isConflict_1 rfl rfl ?_
  refine x_iloadn 2 2 d_M_isConflict_2 rfl rfl ?_
  refine x_iloadn 3 3 d_M_isConflict_3 rfl rfl ?_
  refine x_ldc 4 d_M_isConflict_4 (v := (100000 : Int32)) (gT_in4 25 rfl) ?_
  replace h := gb1_elim h; obtain ⟨b4, h5, h⟩ := h
  replace h := gb2_elim h; obtain ⟨v1, mm2, h3, h⟩ := h
  refine x_callV 6 4 (as := [.inl a0, .inl a1, .inl a2, .inl (100000 : Int32)]) (st' := []) (rs := [.inr (.inl v1)]) (k_M_valueOf h3) rfl cf_M_136 ⟨rfl, by decide +kernel, by decide, by decide, Nat.le_of_ble_eq_true rfl⟩ h5 rfl d_M_isConflict_6 ?_
  refine x_ldc2 9 d_M_isConflict_9 (v := (-9223372036854775808 : Int64)) (gT_in4 14 rfl) ?_
  refine x_lc_ne 12 32 d_M_isConflict_12 d_M_isConflict_13 (by decide) (fun c6 => ?_) (fun c6 => ?_)
  · replace h := gif_t h c6
    refine x_aloadn 16 0 d_M_isConflict_16 rfl rfl ?_
    refine x_iloadn 17 1 d_M_isConflict_17 rfl rfl ?_
    refine x_iloadn 18 2 d_M_isConflict_18 rfl rfl ?_
    refine x_iloadn 19 3 d_M_isConflict_19 rfl rfl ?_
    refine x_ldc 20 d_M_isConflict_20 (v := (100000 : Int32)) (gT_in4 25 rfl) ?_
    replace h := gb1_elim h; obtain ⟨b10, h11, h⟩ := h
    replace h := gb2_elim h; obtain ⟨v7, mm8, h9, h⟩ := h
    refine x_callV 22 4 (as := [.inl a0, .inl a1, .inl a2, .inl (100000 : Int32)]) (st' := []) (rs := [.inl v7]) (k_M_findCurrent h9) rfl cf_M_120 ⟨rfl, by decide +kernel, by decide, by decide, Nat.le_of_ble_eq_true rfl⟩ h11 rfl d_M_isConflict_22 ?_
    refine x_if_le 25 32 d_M_isConflict_25 (by decide) (fun c12 => ?_) (fun c12 => ?_)
    · replace h := gif_t h c12
      refine x_iconst 32 d_M_isConflict_32 (v := (0 : Int32)) (by decide +kernel) ?_
      cases h
      exact x_zreturn 33 (by decide) rfl d_M_isConflict_33
    · replace h := gif_f h c12
      refine x_iconst 28 d_M_isConflict_28 (v := (1 : Int32)) (by decide +kernel) ?_
      refine x_goto 29 33 d_M_isConflict_29 (by decide) ?_
      cases h
      exact x_zreturn 33 (by decide) rfl d_M_isConflict_33
  · replace h := gif_f h c6
    refine x_iconst 32 d_M_isConflict_32 (v := (0 : Int32)) (by decide +kernel) ?_
    cases h
    exact x_zreturn 33 (by decide) rfl d_M_isConflict_33
theorem k_M_isConflict {b : Nat} {a0 : Int32} {a1 : Int32} {a2 : Int32} {r : Int32} {mm res : gM} (h : F_M_isConflict b a0 a1 a2 mm = some (r, res)) : ∀ (l : Launch) (E : gD), gLe mm res ∧ gMet l E Y_M_isConflict y_M_isConflict [.inr (.inr (some b)), .inl a0, .inl a1, .inl a2] (some (.int r)) mm res :=
  fun l E => ⟨(w_M_isConflict (l := l) (E := E) (n0 := 0) (s0 := 0) h).1, x_met (by decide +kernel) rfl rfl rfl (Nat.le_of_ble_eq_true rfl) (w_M_isConflict h)⟩
