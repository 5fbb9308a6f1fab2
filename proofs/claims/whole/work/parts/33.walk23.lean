-- M_corrected
theorem d_M_corrected_0 : decode b_M_corrected 0 = .ok (.aload_n 0, 1) := by decide +kernel
theorem d_M_corrected_1 : decode b_M_corrected 1 = .ok (.iload_n 1, 1) := by decide +kernel
theorem d_M_corrected_2 : decode b_M_corrected 2 = .ok (.invokevirtual 92, 3) := by decide +kernel
theorem d_M_corrected_5 : decode b_M_corrected 5 = .ok (.ifCond .eq 25, 3) := by decide +kernel
theorem d_M_corrected_8 : decode b_M_corrected 8 = .ok (.lload_n 2, 1) := by decide +kernel
theorem d_M_corrected_9 : decode b_M_corrected 9 = .ok (.lconst 0, 1) := by decide +kernel
theorem d_M_corrected_10 : decode b_M_corrected 10 = .ok (.ldc2_w 108, 3) := by decide +kernel
theorem d_M_corrected_13 : decode b_M_corrected 13 = .ok (.invokestatic 98, 3) := by decide +kernel
theorem d_M_corrected_16 : decode b_M_corrected 16 = .ok (.ifCond .eq 14, 3) := by decide +kernel
theorem d_M_corrected_19 : decode b_M_corrected 19 = .ok (.iload 4, 2) := by decide +kernel
theorem d_M_corrected_21 : decode b_M_corrected 21 = .ok (.ifCond .lt 9, 3) := by decide +kernel
theorem d_M_corrected_24 : decode b_M_corrected 24 = .ok (.iload 4, 2) := by decide +kernel
theorem d_M_corrected_26 : decode b_M_corrected 26 = .ok (.iconst 1, 1) := by decide +kernel
theorem d_M_corrected_27 : decode b_M_corrected 27 = .ok (.if_icmp .le 7, 3) := by decide +kernel
theorem d_M_corrected_30 : decode b_M_corrected 30 = .ok (.ldc2_w 151, 3) := by decide +kernel
theorem d_M_corrected_33 : decode b_M_corrected 33 = .ok (.lreturn, 1) := by decide +kernel
theorem d_M_corrected_34 : decode b_M_corrected 34 = .ok (.aload_n 0, 1) := by decide +kernel
theorem d_M_corrected_35 : decode b_M_corrected 35 = .ok (.getfield 70, 3) := by decide +kernel
theorem d_M_corrected_38 : decode b_M_corrected 38 = .ok (.iload_n 1, 1) := by decide +kernel
theorem d_M_corrected_39 : decode b_M_corrected 39 = .ok (.iaload, 1) := by decide +kernel
theorem d_M_corrected_40 : decode b_M_corrected 40 = .ok (.iconst 2, 1) := by decide +kernel
theorem d_M_corrected_41 : decode b_M_corrected 41 = .ok (.if_icmp .ge 51, 3) := by decide +kernel
theorem d_M_corrected_44 : decode b_M_corrected 44 = .ok (.aload_n 0, 1) := by decide +kernel
theorem d_M_corrected_45 : decode b_M_corrected 45 = .ok (.getfield 70, 3) := by decide +kernel
theorem d_M_corrected_48 : decode b_M_corrected 48 = .ok (.iload_n 1, 1) := by decide +kernel
theorem d_M_corrected_49 : decode b_M_corrected 49 = .ok (.iaload, 1) := by decide +kernel
theorem d_M_corrected_50 : decode b_M_corrected 50 = .ok (.ifCond .ne 7, 3) := by decide +kernel
theorem d_M_corrected_53 : decode b_M_corrected 53 = .ok (.lconst 0, 1) := by decide +kernel
theorem d_M_corrected_54 : decode b_M_corrected 54 = .ok (.goto 22, 3) := by decide +kernel
theorem d_M_corrected_57 : decode b_M_corrected 57 = .ok (.aload_n 0, 1) := by decide +kernel
theorem d_M_corrected_58 : decode b_M_corrected 58 = .ok (.getfield 76, 3) := by decide +kernel
theorem d_M_corrected_61 : decode b_M_corrected 61 = .ok (.bipush 6, 2) := by decide +kernel
theorem d_M_corrected_63 : decode b_M_corrected 63 = .ok (.iload_n 1, 1) := by decide +kernel
theorem d_M_corrected_64 : decode b_M_corrected 64 = .ok (.imul, 1) := by decide +kernel
theorem d_M_corrected_65 : decode b_M_corrected 65 = .ok (.laload, 1) := by decide +kernel
theorem d_M_corrected_66 : decode b_M_corrected 66 = .ok (.aload_n 0, 1) := by decide +kernel
theorem d_M_corrected_67 : decode b_M_corrected 67 = .ok (.getfield 73, 3) := by decide +kernel
theorem d_M_corrected_70 : decode b_M_corrected 70 = .ok (.bipush 6, 2) := by decide +kernel
theorem d_M_corrected_72 : decode b_M_corrected 72 = .ok (.iload_n 1, 1) := by decide +kernel
theorem d_M_corrected_73 : decode b_M_corrected 73 = .ok (.imul, 1) := by decide +kernel
theorem d_M_corrected_74 : decode b_M_corrected 74 = .ok (.laload, 1) := by decide +kernel
theorem d_M_corrected_75 : decode b_M_corrected 75 = .ok (.lsub, 1) := by decide +kernel
theorem d_M_corrected_76 : decode b_M_corrected 76 = .ok (.lstore 5, 2) := by decide +kernel
theorem d_M_corrected_78 : decode b_M_corrected 78 = .ok (.iload 4, 2) := by decide +kernel
theorem d_M_corrected_80 : decode b_M_corrected 80 = .ok (.ifCond .ne 10, 3) := by decide +kernel
theorem d_M_corrected_83 : decode b_M_corrected 83 = .ok (.lload_n 2, 1) := by decide +kernel
theorem d_M_corrected_84 : decode b_M_corrected 84 = .ok (.lload 5, 2) := by decide +kernel
theorem d_M_corrected_86 : decode b_M_corrected 86 = .ok (.ladd, 1) := by decide +kernel
theorem d_M_corrected_87 : decode b_M_corrected 87 = .ok (.goto 4, 3) := by decide +kernel
theorem d_M_corrected_90 : decode b_M_corrected 90 = .ok (.lconst 1, 1) := by decide +kernel
theorem d_M_corrected_91 : decode b_M_corrected 91 = .ok (.lreturn, 1) := by decide +kernel
theorem d_M_corrected_92 : decode b_M_corrected 92 = .ok (.bipush 6, 2) := by decide +kernel
theorem d_M_corrected_94 : decode b_M_corrected 94 = .ok (.iload_n 1, 1) := by decide +kernel
theorem d_M_corrected_95 : decode b_M_corrected 95 = .ok (.imul, 1) := by decide +kernel
theorem d_M_corrected_96 : decode b_M_corrected 96 = .ok (.istore 5, 2) := by decide +kernel
theorem d_M_corrected_98 : decode b_M_corrected 98 = .ok (.iconst 1, 1) := by decide +kernel
theorem d_M_corrected_99 : decode b_M_corrected 99 = .ok (.istore 6, 2) := by decide +kernel
theorem d_M_corrected_101 : decode b_M_corrected 101 = .ok (.iload 6, 2) := by decide +kernel
theorem d_M_corrected_103 : decode b_M_corrected 103 = .ok (.iconst 1, 1) := by decide +kernel
theorem d_M_corrected_104 : decode b_M_corrected 104 = .ok (.iadd, 1) := by decide +kernel
theorem d_M_corrected_105 : decode b_M_corrected 105 = .ok (.aload_n 0, 1) := by decide +kernel
theorem d_M_corrected_106 : decode b_M_corrected 106 = .ok (.getfield 70, 3) := by decide +kernel
theorem d_M_corrected_109 : decode b_M_corrected 109 = .ok (.iload_n 1, 1) := by decide +kernel
theorem d_M_corrected_110 : decode b_M_corrected 110 = .ok (.iaload, 1) := by decide +kernel
theorem d_M_corrected_111 : decode b_M_corrected 111 = .ok (.if_icmp .ge 40, 3) := by decide +kernel
theorem d_M_corrected_114 : decode b_M_corrected 114 = .ok (.aload_n 0, 1) := by decide +kernel
theorem d_M_corrected_115 : decode b_M_corrected 115 = .ok (.getfield 73, 3) := by decide +kernel
theorem d_M_corrected_118 : decode b_M_corrected 118 = .ok (.bipush 6, 2) := by decide +kernel
theorem d_M_corrected_120 : decode b_M_corrected 120 = .ok (.iload_n 1, 1) := by decide +kernel
theorem d_M_corrected_121 : decode b_M_corrected 121 = .ok (.imul, 1) := by decide +kernel
theorem d_M_corrected_122 : decode b_M_corrected 122 = .ok (.iload 6, 2) := by decide +kernel
theorem d_M_corrected_124 : decode b_M_corrected 124 = .ok (.iadd, 1) := by decide +kernel
theorem d_M_corrected_125 : decode b_M_corrected 125 = .ok (.laload, 1) := by decide +kernel
theorem d_M_corrected_126 : decode b_M_corrected 126 = .ok (.lload_n 2, 1) := by decide +kernel
theorem d_M_corrected_127 : decode b_M_corrected 127 = .ok (.lcmp, 1) := by decide +kernel
theorem d_M_corrected_128 : decode b_M_corrected 128 = .ok (.ifCond .gt 13, 3) := by decide +kernel
theorem d_M_corrected_131 : decode b_M_corrected 131 = .ok (.bipush 6, 2) := by decide +kernel
theorem d_M_corrected_133 : decode b_M_corrected 133 = .ok (.iload_n 1, 1) := by decide +kernel
theorem d_M_corrected_134 : decode b_M_corrected 134 = .ok (.imul, 1) := by decide +kernel
theorem d_M_corrected_135 : decode b_M_corrected 135 = .ok (.iload 6, 2) := by decide +kernel
theorem d_M_corrected_137 : decode b_M_corrected 137 = .ok (.iadd, 1) := by decide +kernel
theorem d_M_corrected_138 : decode b_M_corrected 138 = .ok (.goto 5, 3) := by decide +kernel
theorem d_M_corrected_141 : decode b_M_corrected 141 = .ok (.iload 5, 2) := by decide +kernel
theorem d_M_corrected_143 : decode b_M_corrected 143 = .ok (.istore 5, 2) := by decide +kernel
theorem d_M_corrected_145 : decode b_M_corrected 145 = .ok (.iinc 6 1, 3) := by decide +kernel
theorem d_M_corrected_148 : decode b_M_corrected 148 = .ok (.goto (-47), 3) := by decide +kernel
theorem d_M_corrected_151 : decode b_M_corrected 151 = .ok (.aload_n 0, 1) := by decide +kernel
theorem d_M_corrected_152 : decode b_M_corrected 152 = .ok (.getfield 73, 3) := by decide +kernel
theorem d_M_corrected_155 : decode b_M_corrected 155 = .ok (.iload 5, 2) := by decide +kernel
theorem d_M_corrected_157 : decode b_M_corrected 157 = .ok (.iconst 1, 1) := by decide +kernel
theorem d_M_corrected_158 : decode b_M_corrected 158 = .ok (.iadd, 1) := by decide +kernel
theorem d_M_corrected_159 : decode b_M_corrected 159 = .ok (.laload, 1) := by decide +kernel
theorem d_M_corrected_160 : decode b_M_corrected 160 = .ok (.aload_n 0, 1) := by decide +kernel
theorem d_M_corrected_161 : decode b_M_corrected 161 = .ok (.getfield 73, 3) := by decide +kernel
theorem d_M_corrected_164 : decode b_M_corrected 164 = .ok (.iload 5, 2) := by decide +kernel
theorem d_M_corrected_166 : decode b_M_corrected 166 = .ok (.laload, 1) := by decide +kernel
theorem d_M_corrected_167 : decode b_M_corrected 167 = .ok (.lsub, 1) := by decide +kernel
theorem d_M_corrected_168 : decode b_M_corrected 168 = .ok (.lstore 6, 2) := by decide +kernel
theorem d_M_corrected_170 : decode b_M_corrected 170 = .ok (.aload_n 0, 1) := by decide +kernel
theorem d_M_corrected_171 : decode b_M_corrected 171 = .ok (.getfield 76, 3) := by decide +kernel
theorem d_M_corrected_174 : decode b_M_corrected 174 = .ok (.iload 5, 2) := by decide +kernel
theorem d_M_corrected_176 : decode b_M_corrected 176 = .ok (.laload, 1) := by decide +kernel
theorem d_M_corrected_177 : decode b_M_corrected 177 = .ok (.lload 6, 2) := by decide +kernel
theorem d_M_corrected_179 : decode b_M_corrected 179 = .ok (.lmul, 1) := by decide +kernel
theorem d_M_corrected_180 : decode b_M_corrected 180 = .ok (.lload_n 2, 1) := by decide +kernel
theorem d_M_corrected_181 : decode b_M_corrected 181 = .ok (.aload_n 0, 1) := by decide +kernel
theorem d_M_corrected_182 : decode b_M_corrected 182 = .ok (.getfield 73, 3) := by decide +kernel
theorem d_M_corrected_185 : decode b_M_corrected 185 = .ok (.iload 5, 2) := by decide +kernel
theorem d_M_corrected_187 : decode b_M_corrected 187 = .ok (.laload, 1) := by decide +kernel
theorem d_M_corrected_188 : decode b_M_corrected 188 = .ok (.lsub, 1) := by decide +kernel
theorem d_M_corrected_189 : decode b_M_corrected 189 = .ok (.aload_n 0, 1) := by decide +kernel
theorem d_M_corrected_190 : decode b_M_corrected 190 = .ok (.getfield 76, 3) := by decide +kernel
theorem d_M_corrected_193 : decode b_M_corrected 193 = .ok (.iload 5, 2) := by decide +kernel
theorem d_M_corrected_195 : decode b_M_corrected 195 = .ok (.iconst 1, 1) := by decide +kernel
theorem d_M_corrected_196 : decode b_M_corrected 196 = .ok (.iadd, 1) := by decide +kernel
theorem d_M_corrected_197 : decode b_M_corrected 197 = .ok (.laload, 1) := by decide +kernel
theorem d_M_corrected_198 : decode b_M_corrected 198 = .ok (.aload_n 0, 1) := by decide +kernel
theorem d_M_corrected_199 : decode b_M_corrected 199 = .ok (.getfield 76, 3) := by decide +kernel
theorem d_M_corrected_202 : decode b_M_corrected 202 = .ok (.iload 5, 2) := by decide +kernel
theorem d_M_corrected_204 : decode b_M_corrected 204 = .ok (.laload, 1) := by decide +kernel
theorem d_M_corrected_205 : decode b_M_corrected 205 = .ok (.lsub, 1) := by decide +kernel
theorem d_M_corrected_206 : decode b_M_corrected 206 = .ok (.lmul, 1) := by decide +kernel
theorem d_M_corrected_207 : decode b_M_corrected 207 = .ok (.ladd, 1) := by decide +kernel
theorem d_M_corrected_208 : decode b_M_corrected 208 = .ok (.lstore 8, 2) := by decide +kernel
theorem d_M_corrected_210 : decode b_M_corrected 210 = .ok (.lload 8, 2) := by decide +kernel
theorem d_M_corrected_212 : decode b_M_corrected 212 = .ok (.lconst 0, 1) := by decide +kernel
theorem d_M_corrected_213 : decode b_M_corrected 213 = .ok (.lcmp, 1) := by decide +kernel
theorem d_M_corrected_214 : decode b_M_corrected 214 = .ok (.ifCond .ge 9, 3) := by decide +kernel
theorem d_M_corrected_217 : decode b_M_corrected 217 = .ok (.lload 8, 2) := by decide +kernel
theorem d_M_corrected_219 : decode b_M_corrected 219 = .ok (.lneg, 1) := by decide +kernel
theorem d_M_corrected_220 : decode b_M_corrected 220 = .ok (.goto 5, 3) := by decide +kernel
theorem d_M_corrected_223 : decode b_M_corrected 223 = .ok (.lload 8, 2) := by decide +kernel
theorem d_M_corrected_225 : decode b_M_corrected 225 = .ok (.lstore 10, 2) := by decide +kernel
theorem d_M_corrected_227 : decode b_M_corrected 227 = .ok (.lload 6, 2) := by decide +kernel
theorem d_M_corrected_229 : decode b_M_corrected 229 = .ok (.lstore 12, 2) := by decide +kernel
theorem d_M_corrected_231 : decode b_M_corrected 231 = .ok (.lload 12, 2) := by decide +kernel
theorem d_M_corrected_233 : decode b_M_corrected 233 = .ok (.lconst 0, 1) := by decide +kernel
theorem d_M_corrected_234 : decode b_M_corrected 234 = .ok (.lcmp, 1) := by decide +kernel
theorem d_M_corrected_235 : decode b_M_corrected 235 = .ok (.ifCond .le 21, 3) := by decide +kernel
theorem d_M_corrected_238 : decode b_M_corrected 238 = .ok (.lload 10, 2) := by decide +kernel
theorem d_M_corrected_240 : decode b_M_corrected 240 = .ok (.lload 12, 2) := by decide +kernel
theorem d_M_corrected_242 : decode b_M_corrected 242 = .ok (.lrem, 1) := by decide +kernel
theorem d_M_corrected_243 : decode b_M_corrected 243 = .ok (.lstore 14, 2) := by decide +kernel
theorem d_M_corrected_245 : decode b_M_corrected 245 = .ok (.lload 12, 2) := by decide +kernel
theorem d_M_corrected_247 : decode b_M_corrected 247 = .ok (.lstore 10, 2) := by decide +kernel
theorem d_M_corrected_249 : decode b_M_corrected 249 = .ok (.lload 14, 2) := by decide +kernel
theorem d_M_corrected_251 : decode b_M_corrected 251 = .ok (.lstore 12, 2) := by decide +kernel
theorem d_M_corrected_253 : decode b_M_corrected 253 = .ok (.goto (-22), 3) := by decide +kernel
theorem d_M_corrected_256 : decode b_M_corrected 256 = .ok (.iload 4, 2) := by decide +kernel
theorem d_M_corrected_258 : decode b_M_corrected 258 = .ok (.ifCond .ne 11, 3) := by decide +kernel
theorem d_M_corrected_261 : decode b_M_corrected 261 = .ok (.lload 8, 2) := by decide +kernel
theorem d_M_corrected_263 : decode b_M_corrected 263 = .ok (.lload 10, 2) := by decide +kernel
theorem d_M_corrected_265 : decode b_M_corrected 265 = .ok (.ldiv, 1) := by decide +kernel
theorem d_M_corrected_266 : decode b_M_corrected 266 = .ok (.goto 8, 3) := by decide +kernel
theorem d_M_corrected_269 : decode b_M_corrected 269 = .ok (.lload 6, 2) := by decide +kernel
theorem d_M_corrected_271 : decode b_M_corrected 271 = .ok (.lload 10, 2) := by decide +kernel
theorem d_M_corrected_273 : decode b_M_corrected 273 = .ok (.ldiv, 1) := by decide +kernel
theorem d_M_corrected_274 : decode b_M_corrected 274 = .ok (.lreturn, 1) := by decide +kernel
def L_M_corrected_101 (k151 : Option Nat → Int64 → Int32 → Int32 → gM → Option (Int64 × gM)) : Nat → Option Nat → Int32 → Int64 → Int32 → Int32 → Int32 → gM → Option (Int64 × gM)
  | 0, _, _, _, _, _, _, _ => none
  | f + 1, p0, p1, p2, p4, p5, p6, mm =>
    gb1 (gfR 10 23 p0 mm) fun v19 =>
    gb1 (gaI 0 v19 p1 mm) fun v21 =>
    if v21 ≤ (p6 + (1 : Int32)) then (
      k151 p0 p2 p4 p5 mm)
    else (
      gb1 (gfR 10 24 p0 mm) fun v24 =>
      gb1 (gaL 1 v24 (((6 : Int32) * p1) + p6) mm) fun v26 =>
      if p2 < v26 then (
        gLet (p6 + 1) fun x29 =>
        L_M_corrected_101 k151 f p0 p1 p2 p4 p5 x29 mm)
      else (
        gLet (((6 : Int32) * p1) + p6) fun x30 =>
        gLet (p6 + 1) fun x31 =>
        L_M_corrected_101 k151 f p0 p1 p2 p4 x30 x31 mm))
set_option maxHeartbeats 4000000 in
set_option maxRecDepth 100000 in
theorem wL_M_corrected_101 {l : Launch} {E : gD} {n0 s0 : Nat} {r : Int64} {res : gM} {k151 : Option Nat → Int64 → Int32 → Int32 → gM → Option (Int64 × gM)} (hk151 : ∀ (p0 : Option Nat) (p2 : Int64) (p4 : Int32) (p5 : Int32) (mm : gM), k151 p0 p2 p4 p5 mm = some (r, res) → xX l E Y_M_corrected n0 s0 (some (.long r)) res 151 [(0, .inr (.inr p0)), (2, .inr (.inl p2)), (4, .inl p4), (5, .inl p5)] [] mm) : ∀ (f : Nat) (p0 : Option Nat) (p1 : Int32) (p2 : Int64) (p4 : Int32) (p5 : Int32) (p6 : Int32) (mm : gM), L_M_corrected_101 k151 f p0 p1 p2 p4 p5 p6 mm = some (r, res) → xX l E Y_M_corrected n0 s0 (some (.long r)) res 101 [(0, .inr (.inr p0)), (1, .inl p1), (2, .inr (.inl p2)), (4, .inl p4), (5, .inl p5), (6, .inl p6)] [] mm := by
  intro f
  induction f with
  | zero =>
    intro p0 p1 p2 p4 p5 p6 mm h
    rw [L_M_corrected_101] at h
    cases h
  | succ f ih =>
    intro p0 p1 p2 p4 p5 p6 mm h
    rw [L_M_corrected_101] at h
    refine x_iload 101 5 d_M_corrected_101 rfl ?_
    refine x_iconst 103 d_M_corrected_103 (v := (1 : Int32)) (by decide +kernel) ?_
    refine x_iadd 104 d_M_corrected_104 ?_
    refine x_aloadn 105 0 d_M_corrected_105 rfl rfl ?_
    replace h := gb1_elim h; obtain ⟨v19, h20, h⟩ := h
    refine x_getR 106 h20 fl_M_70 d_M_corrected_106 ?_
    refine x_iloadn 109 1 d_M_corrected_109 rfl rfl ?_
    replace h := gb1_elim h; obtain ⟨v21, h22, h⟩ := h
    refine x_iald 110 rfl h22 d_M_corrected_110 ?_
    refine x_icmp_ge 111 151 d_M_corrected_111 (by decide) (fun c23 => ?_) (fun c23 => ?_)
    · replace h := gif_t h c23
      refine x_sub [0, 2, 3, 4] rfl ?_
      exact hk151 _ _ _ _ _ h
    · replace h := gif_f h c23
      refine x_aloadn 114 0 d_M_corrected_114 rfl rfl ?_
      replace h := gb1_elim h; obtain ⟨v24, h25, h⟩ := h
      refine x_getR 115 h25 fl_M_73 d_M_corrected_115 ?_
      refine x_bipush 118 d_M_corrected_118 (v := (6 : Int32)) (by decide +kernel) ?_
      refine x_iloadn 120 1 d_M_corrected_120 rfl rfl ?_
      refine x_imul 121 d_M_corrected_121 ?_
      refine x_iload 122 5 d_M_corrected_122 rfl ?_
      refine x_iadd 124 d_M_corrected_124 ?_
      replace h := gb1_elim h; obtain ⟨v26, h27, h⟩ := h
      refine x_lald 125 rfl h27 d_M_corrected_125 ?_
      refine x_lloadn 126 2 d_M_corrected_126 rfl rfl ?_
      refine x_lc_gt 127 141 d_M_corrected_127 d_M_corrected_128 (by decide) (fun c28 => ?_) (fun c28 => ?_)
      · replace h := gif_t h c28
        refine x_iload 141 4 d_M_corrected_141 rfl ?_
        refine x_istore 143 (lv' := [(5, .inl p5), (0, .inr (.inr p0)), (1, .inl p1), (2, .inr (.inl p2)), (4, .inl p4), (6, .inl p6)]) d_M_corrected_143 (by decide) rfl ?_
        replace h := gLet_elim h; obtain ⟨x29, ex29, h⟩ := h
        refine x_iinc 145 5 (v := x29) (lv' := [(6, .inl x29), (5, .inl p5), (0, .inr (.inr p0)), (1, .inl p1), (2, .inr (.inl p2)), (4, .inl p4)]) d_M_corrected_145 rfl (by rw [ex29]; rfl) (by decide) rfl ?_
        refine x_goto 148 101 d_M_corrected_148 (by decide) ?_
        refine x_sub [2, 3, 4, 5, 1, 0] rfl ?_
        exact ih _ _ _ _ _ _ _ h
      · replace h := gif_f h c28
        refine x_bipush 131 d_M_corrected_131 (v := (6 : Int32)) (by decide +kernel) ?_
        refine x_iloadn 133 1 d_M_corrected_133 rfl rfl ?_
        refine x_imul 134 d_M_corrected_134 ?_
        refine x_iload 135 5 d_M_corrected_135 rfl ?_
        refine x_iadd 137 d_M_corrected_137 ?_
        refine x_goto 138 143 d_M_corrected_138 (by decide) ?_
        replace h := gLet_elim h; obtain ⟨x30, ex30, h⟩ := h
        refine x_topi ex30 ?_
        refine x_istore 143 (lv' := [(5, .inl x30), (0, .inr (.inr p0)), (1, .inl p1), (2, .inr (.inl p2)), (4, .inl p4), (6, .inl p6)]) d_M_corrected_143 (by decide) rfl ?_
        replace h := gLet_elim h; obtain ⟨x31, ex31, h⟩ := h
        refine x_iinc 145 5 (v := x31) (lv' := [(6, .inl x31), (5, .inl x30), (0, .inr (.inr p0)), (1, .inl p1), (2, .inr (.inl p2)), (4, .inl p4)]) d_M_corrected_145 rfl (by rw [ex31]; rfl) (by decide) rfl ?_
        refine x_goto 148 101 d_M_corrected_148 (by decide) ?_
        refine x_sub [2, 3, 4, 5, 1, 0] rfl ?_
        exact ih _ _ _ _ _ _ _ h
def L_M_corrected_231 (k256 : Int32 → Int64 → Int64 → Int64 → gM → Option (Int64 × gM)) : Nat → Int32 → Int64 → Int64 → Int64 → Int64 → gM → Option (Int64 × gM)
  | 0, _, _, _, _, _, _ => none
  | f + 1, p4, p6, p8, p10, p12, mm =>
    if p12 ≤ (0 : Int64) then (
      k256 p4 p6 p8 p10 mm)
    else (
      gIf (¬ p12 = 0) (
      gLet (p10 - p10 / p12 * p12) fun x61 =>
      L_M_corrected_231 k256 f p4 p6 p8 p12 x61 mm))
set_option maxHeartbeats 4000000 in
set_option maxRecDepth 100000 in
theorem wL_M_corrected_231 {l : Launch} {E : gD} {n0 s0 : Nat} {r : Int64} {res : gM} {k256 : Int32 → Int64 → Int64 → Int64 → gM → Option (Int64 × gM)} (hk256 : ∀ (p4 : Int32) (p6 : Int64) (p8 : Int64) (p10 : Int64) (mm : gM), k256 p4 p6 p8 p10 mm = some (r, res) → xX l E Y_M_corrected n0 s0 (some (.long r)) res 256 [(4, .inl p4), (6, .inr (.inl p6)), (8, .inr (.inl p8)), (10, .inr (.inl p10))] [] mm) : ∀ (f : Nat) (p4 : Int32) (p6 : Int64) (p8 : Int64) (p10 : Int64) (p12 : Int64) (mm : gM), L_M_corrected_231 k256 f p4 p6 p8 p10 p12 mm = some (r, res) → xX l E Y_M_corrected n0 s0 (some (.long r)) res 231 [(4, .inl p4), (6, .inr (.inl p6)), (8, .inr (.inl p8)), (10, .inr (.inl p10)), (12, .inr (.inl p12))] [] mm := by
  intro f
  induction f with
  | zero =>
    intro p4 p6 p8 p10 p12 mm h
    rw [L_M_corrected_231] at h
    cases h
  | succ f ih =>
    intro p4 p6 p8 p10 p12 mm h
    rw [L_M_corrected_231] at h
    refine x_lload 231 4 d_M_corrected_231 rfl ?_
    refine x_lconst 233 d_M_corrected_233 (v := (0 : Int64)) (by decide +kernel) ?_
    refine x_lc_le 234 256 d_M_corrected_234 d_M_corrected_235 (by decide) (fun c59 => ?_) (fun c59 => ?_)
    · replace h := gif_t h c59
      refine x_sub [0, 1, 2, 3] rfl ?_
      exact hk256 _ _ _ _ _ h
    · replace h := gif_f h c59
      refine x_lload 238 3 d_M_corrected_238 rfl ?_
      refine x_lload 240 4 d_M_corrected_240 rfl ?_
      replace h := gIf_elim h; obtain ⟨c60, h⟩ := h
      refine x_lrem 242 c60 d_M_corrected_242 ?_
      replace h := gLet_elim h; obtain ⟨x61, ex61, h⟩ := h
      refine x_topl ex61 ?_
      refine x_lstore 243 (lv' := [(14, .inr (.inl x61)), (4, .inl p4), (6, .inr (.inl p6)), (8, .inr (.inl p8)), (10, .inr (.inl p10)), (12, .inr (.inl p12))]) d_M_corrected_243 (by decide) rfl ?_
      refine x_lload 245 5 d_M_corrected_245 rfl ?_
      refine x_lstore 247 (lv' := [(10, .inr (.inl p12)), (14, .inr (.inl x61)), (4, .inl p4), (6, .inr (.inl p6)), (8, .inr (.inl p8)), (12, .inr (.inl p12))]) d_M_corrected_247 (by decide) rfl ?_
      refine x_lload 249 1 d_M_corrected_249 rfl ?_
      refine x_lstore 251 (lv' := [(12, .inr (.inl x61)), (10, .inr (.inl p12)), (14, .inr (.inl x61)), (4, .inl p4), (6, .inr (.inl p6)), (8, .inr (.inl p8))]) d_M_corrected_251 (by decide) rfl ?_
      refine x_goto 253 231 d_M_corrected_253 (by decide) ?_
      refine x_sub [3, 4, 5, 1, 0] rfl ?_
      exact ih _ _ _ _ _ _ h
def F_M_corrected (b : Nat) (a0 : Int32) (a1 : Int64) (a2 : Int32) (mm : gM) : Option (Int64 × gM) :=
  gb1 (grc 10 (some b) mm) fun b4 =>
  gb2 (F_M_isTeller b4 a0 mm) fun v1 mm2 =>
  if v1 = 0 then (
    some ((-1 : Int64), mm2))
  else (
    gb2 (F_M_isIn a1 (0 : Int64) (1000000000 : Int64) mm2) fun v7 mm8 =>
    if v7 = 0 then (
      some ((-1 : Int64), mm8))
    else (
      if a2 < 0 then (
        some ((-1 : Int64), mm8))
      else (
        if a2 ≤ (1 : Int32) then (
          gb1 (gfR 10 23 (some b) mm8) fun v13 =>
          gb1 (gaI 0 v13 a0 mm8) fun v15 =>
          if (2 : Int32) ≤ v15 then (
            gLet ((6 : Int32) * a0) fun x18 =>
            L_M_corrected_101 (fun p0 p2 p4 p5 mm =>
              gb1 (gfR 10 24 p0 mm) fun v32 =>
              gb1 (gaL 1 v32 (p5 + (1 : Int32)) mm) fun v34 =>
              gb1 (gfR 10 24 p0 mm) fun v36 =>
              gb1 (gaL 1 v36 p5 mm) fun v38 =>
              gLet (v34 - v38) fun x40 =>
              gb1 (gfR 10 25 p0 mm) fun v41 =>
              gb1 (gaL 1 v41 p5 mm) fun v43 =>
              gb1 (gfR 10 24 p0 mm) fun v45 =>
              gb1 (gaL 1 v45 p5 mm) fun v47 =>
              gb1 (gfR 10 25 p0 mm) fun v49 =>
              gb1 (gaL 1 v49 (p5 + (1 : Int32)) mm) fun v51 =>
              gb1 (gfR 10 25 p0 mm) fun v53 =>
              gb1 (gaL 1 v53 p5 mm) fun v55 =>
              gLet ((v43 * x40) + ((p2 - v47) * (v51 - v55))) fun x57 =>
              if (0 : Int64) ≤ x57 then (
                L_M_corrected_231 (fun p4 p6 p8 p10 mm =>
                  if p4 = 0 then (
                    gIf (¬ p10 = 0) (
                    some ((p8 / p10), mm)))
                  else (
                    gIf (¬ p10 = 0) (
                    some ((p6 / p10), mm)))) gF p4 x40 x57 x57 x40 mm)
              else (
                gLet (-x57) fun x65 =>
                L_M_corrected_231 (fun p4 p6 p8 p10 mm =>
                  if p4 = 0 then (
                    gIf (¬ p10 = 0) (
                    some ((p8 / p10), mm)))
                  else (
                    gIf (¬ p10 = 0) (
                    some ((p6 / p10), mm)))) gF p4 x40 x57 x65 x40 mm)) gF (some b) a0 a1 a2 x18 (1 : Int32) mm8)
          else (
            gb1 (gfR 10 23 (some b) mm8) fun v69 =>
            gb1 (gaI 0 v69 a0 mm8) fun v71 =>
            gLet (fun (p2 : Int64) (p4 : Int32) (q0 : Int64) (mm : gM) =>
              if p4 = 0 then (
                some ((p2 + q0), mm))
              else (
                some ((1 : Int64), mm))) fun J76 =>
            if v71 = 0 then (
              J76 a1 a2 (0 : Int64) mm8)
            else (
              gb1 (gfR 10 25 (some b) mm8) fun v75 =>
              gb1 (gaL 1 v75 ((6 : Int32) * a0) mm8) fun v77 =>
              gb1 (gfR 10 24 (some b) mm8) fun v79 =>
              gb1 (gaL 1 v79 ((6 : Int32) * a0) mm8) fun v81 =>
              J76 a1 a2 (v77 - v81) mm8)))
        else (
          some ((-1 : Int64), mm8)))))
set_option maxHeartbeats 8000000 in
set_option maxRecDepth 100000 in
theorem w_M_corrected {l : Launch} {E : gD} {n0 s0 : Nat} {b : Nat} {a0 : Int32} {a1 : Int64} {a2 : Int32} {r : Int64} {mm res : gM} (h : F_M_corrected b a0 a1 a2 mm = some (r, res)) : xX l E Y_M_corrected n0 s0 (some (.long r)) res 0 [(0, .inr (.inr (some b))), (1, .inl a0), (2, .inr (.inl a1)), (4, .inl a2)] [] mm := by
  unfold F_M_corrected at h
  refine x_aloadn 0 0 d_M_corrected_0 rfl rfl ?_
  refine x_iloadn 1 1 d_M_corrected_1 rfl rfl ?_
  replace h := gb1_elim h; obtain ⟨b4, h5, h⟩ := h
  replace h := gb2_elim h; obtain ⟨v1, mm2, h3, h⟩ := h
  refine x_callV 2 1 (as := [.inl a0]) (st' := []) (rs := [.inl v1]) (k_M_isTeller h3) rfl cf_M_92 ⟨rfl, by decide +kernel, by decide, by decide, Nat.le_of_ble_eq_true rfl⟩ h5 rfl d_M_corrected_2 ?_
  refine x_if_eq 5 30 d_M_corrected_5 (by decide) (fun c6 => ?_) (fun c6 => ?_)
  · replace h := gif_t h c6
    refine x_ldc2 30 d_M_corrected_30 (v := (-1 : Int64)) (gT_in4 78 rfl) ?_
    cases h
    exact x_lreturn 33 rfl d_M_corrected_33
  · replace h := gif_f h c6
    refine x_lloadn 8 2 d_M_corrected_8 rfl rfl ?_
    refine x_lconst 9 d_M_corrected_9 (v := (0 : Int64)) (by decide +kernel) ?_
    refine x_ldc2 10 d_M_corrected_10 (v := (1000000000 : Int64)) (gT_in3 135 rfl) ?_
    replace h := gb2_elim h; obtain ⟨v7, mm8, h9, h⟩ := h
    refine x_callS 13 3 (as := [.inr (.inl a1), .inr (.inl (0 : Int64)), .inr (.inl (1000000000 : Int64))]) (st' := []) (rs := [.inl v7]) (k_M_isIn h9) rfl cf_M_98 ⟨rfl, by decide +kernel, by decide, by decide, Nat.le_of_ble_eq_true rfl⟩ rfl d_M_corrected_13 ?_
    refine x_if_eq 16 30 d_M_corrected_16 (by decide) (fun c10 => ?_) (fun c10 => ?_)
    · replace h := gif_t h c10
      refine x_ldc2 30 d_M_corrected_30 (v := (-1 : Int64)) (gT_in4 78 rfl) ?_
      cases h
      exact x_lreturn 33 rfl d_M_corrected_33
    · replace h := gif_f h c10
      refine x_iload 19 3 d_M_corrected_19 rfl ?_
      refine x_if_lt 21 30 d_M_corrected_21 (by decide) (fun c11 => ?_) (fun c11 => ?_)
      · replace h := gif_t h c11
        refine x_ldc2 30 d_M_corrected_30 (v := (-1 : Int64)) (gT_in4 78 rfl) ?_
        cases h
        exact x_lreturn 33 rfl d_M_corrected_33
      · replace h := gif_f h c11
        refine x_iload 24 3 d_M_corrected_24 rfl ?_
        refine x_iconst 26 d_M_corrected_26 (v := (1 : Int32)) (by decide +kernel) ?_
        refine x_icmp_le 27 34 d_M_corrected_27 (by decide) (fun c12 => ?_) (fun c12 => ?_)
        · replace h := gif_t h c12
          refine x_aloadn 34 0 d_M_corrected_34 rfl rfl ?_
          replace h := gb1_elim h; obtain ⟨v13, h14, h⟩ := h
          refine x_getR 35 h14 fl_M_70 d_M_corrected_35 ?_
          refine x_iloadn 38 1 d_M_corrected_38 rfl rfl ?_
          replace h := gb1_elim h; obtain ⟨v15, h16, h⟩ := h
          refine x_iald 39 rfl h16 d_M_corrected_39 ?_
          refine x_iconst 40 d_M_corrected_40 (v := (2 : Int32)) (by decide +kernel) ?_
          refine x_icmp_ge 41 92 d_M_corrected_41 (by decide) (fun c17 => ?_) (fun c17 => ?_)
          · replace h := gif_t h c17
            refine x_bipush 92 d_M_corrected_92 (v := (6 : Int32)) (by decide +kernel) ?_
            refine x_iloadn 94 1 d_M_corrected_94 rfl rfl ?_
            refine x_imul 95 d_M_corrected_95 ?_
            replace h := gLet_elim h; obtain ⟨x18, ex18, h⟩ := h
            refine x_topi ex18 ?_
            refine x_istore 96 (lv' := [(5, .inl x18), (0, .inr (.inr (some b))), (1, .inl a0), (2, .inr (.inl a1)), (4, .inl a2)]) d_M_corrected_96 (by decide) rfl ?_
            refine x_iconst 98 d_M_corrected_98 (v := (1 : Int32)) (by decide +kernel) ?_
            refine x_istore 99 (lv' := [(6, .inl (1 : Int32)), (5, .inl x18), (0, .inr (.inr (some b))), (1, .inl a0), (2, .inr (.inl a1)), (4, .inl a2)]) d_M_corrected_99 (by decide) rfl ?_
            refine x_sub [2, 3, 4, 5, 1, 0] rfl ?_
            refine wL_M_corrected_101 ?_ gF _ _ _ _ _ _ _ h
            · intro p0 p2 p4 p5 mm h
              refine x_aloadn 151 0 d_M_corrected_151 rfl rfl ?_
              replace h := gb1_elim h; obtain ⟨v32, h33, h⟩ := h
              refine x_getR 152 h33 fl_M_73 d_M_corrected_152 ?_
              refine x_iload 155 3 d_M_corrected_155 rfl ?_
              refine x_iconst 157 d_M_corrected_157 (v := (1 : Int32)) (by decide +kernel) ?_
              refine x_iadd 158 d_M_corrected_158 ?_
              replace h := gb1_elim h; obtain ⟨v34, h35, h⟩ := h
              refine x_lald 159 rfl h35 d_M_corrected_159 ?_
              refine x_aloadn 160 0 d_M_corrected_160 rfl rfl ?_
              replace h := gb1_elim h; obtain ⟨v36, h37, h⟩ := h
              refine x_getR 161 h37 fl_M_73 d_M_corrected_161 ?_
              refine x_iload 164 3 d_M_corrected_164 rfl ?_
              replace h := gb1_elim h; obtain ⟨v38, h39, h⟩ := h
              refine x_lald 166 rfl h39 d_M_corrected_166 ?_
              refine x_lsub 167 d_M_corrected_167 ?_
              replace h := gLet_elim h; obtain ⟨x40, ex40, h⟩ := h
              refine x_topl ex40 ?_
              refine x_lstore 168 (lv' := [(6, .inr (.inl x40)), (0, .inr (.inr p0)), (2, .inr (.inl p2)), (4, .inl p4), (5, .inl p5)]) d_M_corrected_168 (by decide) rfl ?_
              refine x_aloadn 170 1 d_M_corrected_170 rfl rfl ?_
              replace h := gb1_elim h; obtain ⟨v41, h42, h⟩ := h
              refine x_getR 171 h42 fl_M_76 d_M_corrected_171 ?_
              refine x_iload 174 4 d_M_corrected_174 rfl ?_
              replace h := gb1_elim h; obtain ⟨v43, h44, h⟩ := h
              refine x_lald 176 rfl h44 d_M_corrected_176 ?_
              refine x_lload 177 0 d_M_corrected_177 rfl ?_
              refine x_lmul 179 d_M_corrected_179 ?_
              refine x_lloadn 180 2 d_M_corrected_180 rfl rfl ?_
              refine x_aloadn 181 1 d_M_corrected_181 rfl rfl ?_
              replace h := gb1_elim h; obtain ⟨v45, h46, h⟩ := h
              refine x_getR 182 h46 fl_M_73 d_M_corrected_182 ?_
              refine x_iload 185 4 d_M_corrected_185 rfl ?_
              replace h := gb1_elim h; obtain ⟨v47, h48, h⟩ := h
              refine x_lald 187 rfl h48 d_M_corrected_187 ?_
              refine x_lsub 188 d_M_corrected_188 ?_
              refine x_aloadn 189 1 d_M_corrected_189 rfl rfl ?_
              replace h := gb1_elim h; obtain ⟨v49, h50, h⟩ := h
              refine x_getR 190 h50 fl_M_76 d_M_corrected_190 ?_
              refine x_iload 193 4 d_M_corrected_193 rfl ?_
              refine x_iconst 195 d_M_corrected_195 (v := (1 : Int32)) (by decide +kernel) ?_
              refine x_iadd 196 d_M_corrected_196 ?_
              replace h := gb1_elim h; obtain ⟨v51, h52, h⟩ := h
              refine x_lald 197 rfl h52 d_M_corrected_197 ?_
              refine x_aloadn 198 1 d_M_corrected_198 rfl rfl ?_
              replace h := gb1_elim h; obtain ⟨v53, h54, h⟩ := h
              refine x_getR 199 h54 fl_M_76 d_M_corrected_199 ?_
              refine x_iload 202 4 d_M_corrected_202 rfl ?_
              replace h := gb1_elim h; obtain ⟨v55, h56, h⟩ := h
              refine x_lald 204 rfl h56 d_M_corrected_204 ?_
              refine x_lsub 205 d_M_corrected_205 ?_
              refine x_lmul 206 d_M_corrected_206 ?_
              refine x_ladd 207 d_M_corrected_207 ?_
              replace h := gLet_elim h; obtain ⟨x57, ex57, h⟩ := h
              refine x_topl ex57 ?_
              refine x_lstore 208 (lv' := [(8, .inr (.inl x57)), (6, .inr (.inl x40)), (0, .inr (.inr p0)), (2, .inr (.inl p2)), (4, .inl p4), (5, .inl p5)]) d_M_corrected_208 (by decide) rfl ?_
              refine x_lload 210 0 d_M_corrected_210 rfl ?_
              refine x_lconst 212 d_M_corrected_212 (v := (0 : Int64)) (by decide +kernel) ?_
              refine x_lc_ge 213 223 d_M_corrected_213 d_M_corrected_214 (by decide) (fun c58 => ?_) (fun c58 => ?_)
              · replace h := gif_t h c58
                refine x_lload 223 0 d_M_corrected_223 rfl ?_
                refine x_lstore 225 (lv' := [(10, .inr (.inl x57)), (8, .inr (.inl x57)), (6, .inr (.inl x40)), (0, .inr (.inr p0)), (2, .inr (.inl p2)), (4, .inl p4), (5, .inl p5)]) d_M_corrected_225 (by decide) rfl ?_
                refine x_lload 227 2 d_M_corrected_227 rfl ?_
                refine x_lstore 229 (lv' := [(12, .inr (.inl x40)), (10, .inr (.inl x57)), (8, .inr (.inl x57)), (6, .inr (.inl x40)), (0, .inr (.inr p0)), (2, .inr (.inl p2)), (4, .inl p4), (5, .inl p5)]) d_M_corrected_229 (by decide) rfl ?_
                refine x_sub [6, 3, 2, 1, 0] rfl ?_
                refine wL_M_corrected_231 ?_ gF _ _ _ _ _ _ h
                · intro p4 p6 p8 p10 mm h
                  refine x_iload 256 0 d_M_corrected_256 rfl ?_
                  refine x_if_ne 258 269 d_M_corrected_258 (by decide) (fun c62 => ?_) (fun c62 => ?_)
                  · replace h := gif_t h c62
                    refine x_lload 261 2 d_M_corrected_261 rfl ?_
                    refine x_lload 263 3 d_M_corrected_263 rfl ?_
                    replace h := gIf_elim h; obtain ⟨c63, h⟩ := h
                    refine x_ldiv 265 c63 d_M_corrected_265 ?_
                    refine x_goto 266 274 d_M_corrected_266 (by decide) ?_
                    cases h
                    exact x_lreturn 274 rfl d_M_corrected_274
                  · replace h := gif_f h c62
                    refine x_lload 269 1 d_M_corrected_269 rfl ?_
                    refine x_lload 271 3 d_M_corrected_271 rfl ?_
                    replace h := gIf_elim h; obtain ⟨c64, h⟩ := h
                    refine x_ldiv 273 c64 d_M_corrected_273 ?_
                    cases h
                    exact x_lreturn 274 rfl d_M_corrected_274
              · replace h := gif_f h c58
                refine x_lload 217 0 d_M_corrected_217 rfl ?_
                refine x_lneg 219 d_M_corrected_219 ?_
                refine x_goto 220 225 d_M_corrected_220 (by decide) ?_
                replace h := gLet_elim h; obtain ⟨x65, ex65, h⟩ := h
                refine x_topl ex65 ?_
                refine x_lstore 225 (lv' := [(10, .inr (.inl x65)), (8, .inr (.inl x57)), (6, .inr (.inl x40)), (0, .inr (.inr p0)), (2, .inr (.inl p2)), (4, .inl p4), (5, .inl p5)]) d_M_corrected_225 (by decide) rfl ?_
                refine x_lload 227 2 d_M_corrected_227 rfl ?_
                refine x_lstore 229 (lv' := [(12, .inr (.inl x40)), (10, .inr (.inl x65)), (8, .inr (.inl x57)), (6, .inr (.inl x40)), (0, .inr (.inr p0)), (2, .inr (.inl p2)), (4, .inl p4), (5, .inl p5)]) d_M_corrected_229 (by decide) rfl ?_
                refine x_sub [6, 3, 2, 1, 0] rfl ?_
                refine wL_M_corrected_231 ?_ gF _ _ _ _ _ _ h
                · intro p4 p6 p8 p10 mm h
                  refine x_iload 256 0 d_M_corrected_256 rfl ?_
                  refine x_if_ne 258 269 d_M_corrected_258 (by decide) (fun c66 => ?_) (fun c66 => ?_)
                  · replace h := gif_t h c66
                    refine x_lload 261 2 d_M_corrected_261 rfl ?_
                    refine x_lload 263 3 d_M_corrected_263 rfl ?_
                    replace h := gIf_elim h; obtain ⟨c67, h⟩ := h
                    refine x_ldiv 265 c67 d_M_corrected_265 ?_
                    refine x_goto 266 274 d_M_corrected_266 (by decide) ?_
                    cases h
                    exact x_lreturn 274 rfl d_M_corrected_274
                  · replace h := gif_f h c66
                    refine x_lload 269 1 d_M_corrected_269 rfl ?_
                    refine x_lload 271 3 d_M_corrected_271 rfl ?_
                    replace h := gIf_elim h; obtain ⟨c68, h⟩ := h
                    refine x_ldiv 273 c68 d_M_corrected_273 ?_
                    cases h
                    exact x_lreturn 274 rfl d_M_corrected_274
          · replace h := gif_f h c17
            refine x_aloadn 44 0 d_M_corrected_44 rfl rfl ?_
            replace h := gb1_elim h; obtain ⟨v69, h70, h⟩ := h
            refine x_getR 45 h70 fl_M_70 d_M_corrected_45 ?_
            refine x_iloadn 48 1 d_M_corrected_48 rfl rfl ?_
            replace h := gb1_elim h; obtain ⟨v71, h72, h⟩ := h
            refine x_iald 49 rfl h72 d_M_corrected_49 ?_
            replace h := gLet_elim h; obtain ⟨J76, hJ76, h⟩ := h
            have kJ76 : ∀ (p2 : Int64) (p4 : Int32) (q0 : Int64) (mm : gM), J76 p2 p4 q0 mm = some (r, res) → xX l E Y_M_corrected n0 s0 (some (.long r)) res 76 [(2, .inr (.inl p2)), (4, .inl p4)] [.inr (.inl q0)] mm := by
              intro p2 p4 q0 mm h
              rw [hJ76] at h
              refine x_lstore 76 (lv' := [(5, .inr (.inl q0)), (2, .inr (.inl p2)), (4, .inl p4)]) d_M_corrected_76 (by decide) rfl ?_
              refine x_iload 78 2 d_M_corrected_78 rfl ?_
              refine x_if_ne 80 90 d_M_corrected_80 (by decide) (fun c73 => ?_) (fun c73 => ?_)
              · replace h := gif_t h c73
                refine x_lloadn 83 1 d_M_corrected_83 rfl rfl ?_
                refine x_lload 84 0 d_M_corrected_84 rfl ?_
                refine x_ladd 86 d_M_corrected_86 ?_
                refine x_goto 87 91 d_M_corrected_87 (by decide) ?_
                cases h
                exact x_lreturn 91 rfl d_M_corrected_91
              · replace h := gif_f h c73
                refine x_lconst 90 d_M_corrected_90 (v := (1 : Int64)) (by decide +kernel) ?_
                cases h
                exact x_lreturn 91 rfl d_M_corrected_91
            refine x_if_ne 50 57 d_M_corrected_50 (by decide) (fun c74 => ?_) (fun c74 => ?_)
            · replace h := gif_t h c74
              refine x_lconst 53 d_M_corrected_53 (v := (0 : Int64)) (by decide +kernel) ?_
              refine x_goto 54 76 d_M_corrected_54 (by decide) ?_
              refine x_sub [2, 3] rfl ?_
              exact kJ76 _ _ _ _ h
            · replace h := gif_f h c74
              refine x_aloadn 57 0 d_M_corrected_57 rfl rfl ?_
              replace h := gb1_elim h; obtain ⟨v75, h76, h⟩ := h
              refine x_getR 58 h76 fl_M_76 d_M_corrected_58 ?_
              refine x_bipush 61 d_M_corrected_61 (v := (6 : Int32)) (by decide +kernel) ?_
              refine x_iloadn 63 1 d_M_corrected_63 rfl rfl ?_
              refine x_imul 64 d_M_corrected_64 ?_
              replace h := gb1_elim h; obtain ⟨v77, h78, h⟩ := h
              refine x_lald 65 rfl h78 d_M_corrected_65 ?_
              refine x_aloadn 66 0 d_M_corrected_66 rfl rfl ?_
              replace h := gb1_elim h; obtain ⟨v79, h80, h⟩ := h
              refine x_getR 67 h80 fl_M_73 d_M_corrected_67 ?_
              refine x_bipush 70 d_M_corrected_70 (v := (6 : Int32)) (by decide +kernel) ?_
              refine x_iloadn 72 1 d_M_corrected_72 rfl rfl ?_
              refine x_imul 73 d_M_corrected_73 ?_
              replace h := gb1_elim h; obtain ⟨v81, h82, h⟩ := h
              refine x_lald 74 rfl h82 d_M_corrected_74 ?_
              refine x_lsub 75 d_M_corrected_75 ?_
              refine x_sub [2, 3] rfl ?_
              exact kJ76 _ _ _ _ h
        · replace h := gif_f h c12
          refine x_ldc2 30 d_M_corrected_30 (v := (-1 : Int64)) (gT_in4 78 rfl) ?_
          cases h
          exact x_lreturn 33 rfl d_M_corrected_33
theorem k_M_corrected {b : Nat} {a0 : Int32} {a1 : Int64} {a2 : Int32} {r : Int64} {mm res : gM} (h : F_M_corrected b a0 a1 a2 mm = some (r, res)) : ∀ (l : Launch) (E : gD), gLe mm res ∧ gMet l E Y_M_corrected y_M_corrected [.inr (.inr (some b)), .inl a0, .inr (.inl a1), .inl a2] (some (.long r)) mm res :=
  fun l E => ⟨(w_M_corrected (l := l) (E := E) (n0 := 0) (s0 := 0) h).1, x_met (by decide +kernel) rfl rfl rfl (Nat.le_of_ble_eq_true rfl) (w_M_corrected h)⟩
