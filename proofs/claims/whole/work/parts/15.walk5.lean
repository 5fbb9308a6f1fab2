-- M_tell Holding_init ShipSet_init S_set
theorem d_M_tell_0 : decode b_M_tell 0 = .ok (.aload_n 0, 1) := by decide +kernel
theorem d_M_tell_1 : decode b_M_tell 1 = .ok (.iload_n 1, 1) := by decide +kernel
theorem d_M_tell_2 : decode b_M_tell 2 = .ok (.invokevirtual 92, 3) := by decide +kernel
theorem d_M_tell_5 : decode b_M_tell 5 = .ok (.ifCond .eq 71, 3) := by decide +kernel
theorem d_M_tell_8 : decode b_M_tell 8 = .ok (.iload_n 2, 1) := by decide +kernel
theorem d_M_tell_9 : decode b_M_tell 9 = .ok (.i2l, 1) := by decide +kernel
theorem d_M_tell_10 : decode b_M_tell 10 = .ok (.lconst 1, 1) := by decide +kernel
theorem d_M_tell_11 : decode b_M_tell 11 = .ok (.ldc2_w 96, 3) := by decide +kernel
theorem d_M_tell_14 : decode b_M_tell 14 = .ok (.invokestatic 98, 3) := by decide +kernel
theorem d_M_tell_17 : decode b_M_tell 17 = .ok (.ifCond .eq 59, 3) := by decide +kernel
theorem d_M_tell_20 : decode b_M_tell 20 = .ok (.iload_n 3, 1) := by decide +kernel
theorem d_M_tell_21 : decode b_M_tell 21 = .ok (.i2l, 1) := by decide +kernel
theorem d_M_tell_22 : decode b_M_tell 22 = .ok (.lconst 0, 1) := by decide +kernel
theorem d_M_tell_23 : decode b_M_tell 23 = .ok (.ldc2_w 102, 3) := by decide +kernel
theorem d_M_tell_26 : decode b_M_tell 26 = .ok (.invokestatic 98, 3) := by decide +kernel
theorem d_M_tell_29 : decode b_M_tell 29 = .ok (.ifCond .eq 47, 3) := by decide +kernel
theorem d_M_tell_32 : decode b_M_tell 32 = .ok (.iload 4, 2) := by decide +kernel
theorem d_M_tell_34 : decode b_M_tell 34 = .ok (.i2l, 1) := by decide +kernel
theorem d_M_tell_35 : decode b_M_tell 35 = .ok (.lconst 0, 1) := by decide +kernel
theorem d_M_tell_36 : decode b_M_tell 36 = .ok (.ldc2_w 104, 3) := by decide +kernel
theorem d_M_tell_39 : decode b_M_tell 39 = .ok (.invokestatic 98, 3) := by decide +kernel
theorem d_M_tell_42 : decode b_M_tell 42 = .ok (.ifCond .eq 34, 3) := by decide +kernel
theorem d_M_tell_45 : decode b_M_tell 45 = .ok (.lload 5, 2) := by decide +kernel
theorem d_M_tell_47 : decode b_M_tell 47 = .ok (.ldc2_w 106, 3) := by decide +kernel
theorem d_M_tell_50 : decode b_M_tell 50 = .ok (.ldc2_w 108, 3) := by decide +kernel
theorem d_M_tell_53 : decode b_M_tell 53 = .ok (.invokestatic 98, 3) := by decide +kernel
theorem d_M_tell_56 : decode b_M_tell 56 = .ok (.ifCond .eq 20, 3) := by decide +kernel
theorem d_M_tell_59 : decode b_M_tell 59 = .ok (.iload 7, 2) := by decide +kernel
theorem d_M_tell_61 : decode b_M_tell 61 = .ok (.i2l, 1) := by decide +kernel
theorem d_M_tell_62 : decode b_M_tell 62 = .ok (.lconst 0, 1) := by decide +kernel
theorem d_M_tell_63 : decode b_M_tell 63 = .ok (.ldc2_w 110, 3) := by decide +kernel
theorem d_M_tell_66 : decode b_M_tell 66 = .ok (.invokestatic 98, 3) := by decide +kernel
theorem d_M_tell_69 : decode b_M_tell 69 = .ok (.ifCond .eq 7, 3) := by decide +kernel
theorem d_M_tell_72 : decode b_M_tell 72 = .ok (.iconst 1, 1) := by decide +kernel
theorem d_M_tell_73 : decode b_M_tell 73 = .ok (.goto 4, 3) := by decide +kernel
theorem d_M_tell_76 : decode b_M_tell 76 = .ok (.iconst 0, 1) := by decide +kernel
theorem d_M_tell_77 : decode b_M_tell 77 = .ok (.istore 8, 2) := by decide +kernel
theorem d_M_tell_79 : decode b_M_tell 79 = .ok (.iload 8, 2) := by decide +kernel
theorem d_M_tell_81 : decode b_M_tell 81 = .ok (.ifCond .ne 5, 3) := by decide +kernel
theorem d_M_tell_84 : decode b_M_tell 84 = .ok (.iconst (-1), 1) := by decide +kernel
theorem d_M_tell_85 : decode b_M_tell 85 = .ok (.ireturn, 1) := by decide +kernel
theorem d_M_tell_86 : decode b_M_tell 86 = .ok (.aload_n 0, 1) := by decide +kernel
theorem d_M_tell_87 : decode b_M_tell 87 = .ok (.iload_n 1, 1) := by decide +kernel
theorem d_M_tell_88 : decode b_M_tell 88 = .ok (.iload_n 2, 1) := by decide +kernel
theorem d_M_tell_89 : decode b_M_tell 89 = .ok (.invokevirtual 112, 3) := by decide +kernel
theorem d_M_tell_92 : decode b_M_tell 92 = .ok (.istore 9, 2) := by decide +kernel
theorem d_M_tell_94 : decode b_M_tell 94 = .ok (.iload 9, 2) := by decide +kernel
theorem d_M_tell_96 : decode b_M_tell 96 = .ok (.ifCond .lt 57, 3) := by decide +kernel
theorem d_M_tell_99 : decode b_M_tell 99 = .ok (.aload_n 0, 1) := by decide +kernel
theorem d_M_tell_100 : decode b_M_tell 100 = .ok (.getfield 20, 3) := by decide +kernel
theorem d_M_tell_103 : decode b_M_tell 103 = .ok (.iload 9, 2) := by decide +kernel
theorem d_M_tell_105 : decode b_M_tell 105 = .ok (.iaload, 1) := by decide +kernel
theorem d_M_tell_106 : decode b_M_tell 106 = .ok (.iload_n 3, 1) := by decide +kernel
theorem d_M_tell_107 : decode b_M_tell 107 = .ok (.if_icmp .ne 44, 3) := by decide +kernel
theorem d_M_tell_110 : decode b_M_tell 110 = .ok (.aload_n 0, 1) := by decide +kernel
theorem d_M_tell_111 : decode b_M_tell 111 = .ok (.getfield 23, 3) := by decide +kernel
theorem d_M_tell_114 : decode b_M_tell 114 = .ok (.iload 9, 2) := by decide +kernel
theorem d_M_tell_116 : decode b_M_tell 116 = .ok (.iaload, 1) := by decide +kernel
theorem d_M_tell_117 : decode b_M_tell 117 = .ok (.iload 4, 2) := by decide +kernel
theorem d_M_tell_119 : decode b_M_tell 119 = .ok (.if_icmp .ne 32, 3) := by decide +kernel
theorem d_M_tell_122 : decode b_M_tell 122 = .ok (.aload_n 0, 1) := by decide +kernel
theorem d_M_tell_123 : decode b_M_tell 123 = .ok (.getfield 26, 3) := by decide +kernel
theorem d_M_tell_126 : decode b_M_tell 126 = .ok (.iload 9, 2) := by decide +kernel
theorem d_M_tell_128 : decode b_M_tell 128 = .ok (.laload, 1) := by decide +kernel
theorem d_M_tell_129 : decode b_M_tell 129 = .ok (.lload 5, 2) := by decide +kernel
theorem d_M_tell_131 : decode b_M_tell 131 = .ok (.lcmp, 1) := by decide +kernel
theorem d_M_tell_132 : decode b_M_tell 132 = .ok (.ifCond .ne 19, 3) := by decide +kernel
theorem d_M_tell_135 : decode b_M_tell 135 = .ok (.aload_n 0, 1) := by decide +kernel
theorem d_M_tell_136 : decode b_M_tell 136 = .ok (.getfield 30, 3) := by decide +kernel
theorem d_M_tell_139 : decode b_M_tell 139 = .ok (.iload 9, 2) := by decide +kernel
theorem d_M_tell_141 : decode b_M_tell 141 = .ok (.iaload, 1) := by decide +kernel
theorem d_M_tell_142 : decode b_M_tell 142 = .ok (.iload 7, 2) := by decide +kernel
theorem d_M_tell_144 : decode b_M_tell 144 = .ok (.if_icmp .ne 7, 3) := by decide +kernel
theorem d_M_tell_147 : decode b_M_tell 147 = .ok (.iconst 0, 1) := by decide +kernel
theorem d_M_tell_148 : decode b_M_tell 148 = .ok (.goto 4, 3) := by decide +kernel
theorem d_M_tell_151 : decode b_M_tell 151 = .ok (.iconst (-1), 1) := by decide +kernel
theorem d_M_tell_152 : decode b_M_tell 152 = .ok (.ireturn, 1) := by decide +kernel
theorem d_M_tell_153 : decode b_M_tell 153 = .ok (.aload_n 0, 1) := by decide +kernel
theorem d_M_tell_154 : decode b_M_tell 154 = .ok (.getfield 7, 3) := by decide +kernel
theorem d_M_tell_157 : decode b_M_tell 157 = .ok (.iload_n 1, 1) := by decide +kernel
theorem d_M_tell_158 : decode b_M_tell 158 = .ok (.baload, 1) := by decide +kernel
theorem d_M_tell_159 : decode b_M_tell 159 = .ok (.ifCond .ne 13, 3) := by decide +kernel
theorem d_M_tell_162 : decode b_M_tell 162 = .ok (.aload_n 0, 1) := by decide +kernel
theorem d_M_tell_163 : decode b_M_tell 163 = .ok (.getfield 89, 3) := by decide +kernel
theorem d_M_tell_166 : decode b_M_tell 166 = .ok (.sipush 200, 3) := by decide +kernel
theorem d_M_tell_169 : decode b_M_tell 169 = .ok (.if_icmp .ne 5, 3) := by decide +kernel
theorem d_M_tell_172 : decode b_M_tell 172 = .ok (.iconst (-1), 1) := by decide +kernel
theorem d_M_tell_173 : decode b_M_tell 173 = .ok (.ireturn, 1) := by decide +kernel
theorem d_M_tell_174 : decode b_M_tell 174 = .ok (.aload_n 0, 1) := by decide +kernel
theorem d_M_tell_175 : decode b_M_tell 175 = .ok (.getfield 13, 3) := by decide +kernel
theorem d_M_tell_178 : decode b_M_tell 178 = .ok (.aload_n 0, 1) := by decide +kernel
theorem d_M_tell_179 : decode b_M_tell 179 = .ok (.getfield 89, 3) := by decide +kernel
theorem d_M_tell_182 : decode b_M_tell 182 = .ok (.iload_n 1, 1) := by decide +kernel
theorem d_M_tell_183 : decode b_M_tell 183 = .ok (.iastore, 1) := by decide +kernel
theorem d_M_tell_184 : decode b_M_tell 184 = .ok (.aload_n 0, 1) := by decide +kernel
theorem d_M_tell_185 : decode b_M_tell 185 = .ok (.getfield 17, 3) := by decide +kernel
theorem d_M_tell_188 : decode b_M_tell 188 = .ok (.aload_n 0, 1) := by decide +kernel
theorem d_M_tell_189 : decode b_M_tell 189 = .ok (.getfield 89, 3) := by decide +kernel
theorem d_M_tell_192 : decode b_M_tell 192 = .ok (.iload_n 2, 1) := by decide +kernel
theorem d_M_tell_193 : decode b_M_tell 193 = .ok (.iastore, 1) := by decide +kernel
theorem d_M_tell_194 : decode b_M_tell 194 = .ok (.aload_n 0, 1) := by decide +kernel
theorem d_M_tell_195 : decode b_M_tell 195 = .ok (.getfield 20, 3) := by decide +kernel
theorem d_M_tell_198 : decode b_M_tell 198 = .ok (.aload_n 0, 1) := by decide +kernel
theorem d_M_tell_199 : decode b_M_tell 199 = .ok (.getfield 89, 3) := by decide +kernel
theorem d_M_tell_202 : decode b_M_tell 202 = .ok (.iload_n 3, 1) := by decide +kernel
theorem d_M_tell_203 : decode b_M_tell 203 = .ok (.iastore, 1) := by decide +kernel
theorem d_M_tell_204 : decode b_M_tell 204 = .ok (.aload_n 0, 1) := by decide +kernel
theorem d_M_tell_205 : decode b_M_tell 205 = .ok (.getfield 23, 3) := by decide +kernel
theorem d_M_tell_208 : decode b_M_tell 208 = .ok (.aload_n 0, 1) := by decide +kernel
theorem d_M_tell_209 : decode b_M_tell 209 = .ok (.getfield 89, 3) := by decide +kernel
theorem d_M_tell_212 : decode b_M_tell 212 = .ok (.iload 4, 2) := by decide +kernel
theorem d_M_tell_214 : decode b_M_tell 214 = .ok (.iastore, 1) := by decide +kernel
theorem d_M_tell_215 : decode b_M_tell 215 = .ok (.aload_n 0, 1) := by decide +kernel
theorem d_M_tell_216 : decode b_M_tell 216 = .ok (.getfield 26, 3) := by decide +kernel
theorem d_M_tell_219 : decode b_M_tell 219 = .ok (.aload_n 0, 1) := by decide +kernel
theorem d_M_tell_220 : decode b_M_tell 220 = .ok (.getfield 89, 3) := by decide +kernel
theorem d_M_tell_223 : decode b_M_tell 223 = .ok (.lload 5, 2) := by decide +kernel
theorem d_M_tell_225 : decode b_M_tell 225 = .ok (.lastore, 1) := by decide +kernel
theorem d_M_tell_226 : decode b_M_tell 226 = .ok (.aload_n 0, 1) := by decide +kernel
theorem d_M_tell_227 : decode b_M_tell 227 = .ok (.getfield 30, 3) := by decide +kernel
theorem d_M_tell_230 : decode b_M_tell 230 = .ok (.aload_n 0, 1) := by decide +kernel
theorem d_M_tell_231 : decode b_M_tell 231 = .ok (.getfield 89, 3) := by decide +kernel
theorem d_M_tell_234 : decode b_M_tell 234 = .ok (.iload 7, 2) := by decide +kernel
theorem d_M_tell_236 : decode b_M_tell 236 = .ok (.iastore, 1) := by decide +kernel
theorem d_M_tell_237 : decode b_M_tell 237 = .ok (.aload_n 0, 1) := by decide +kernel
theorem d_M_tell_238 : decode b_M_tell 238 = .ok (.dup, 1) := by decide +kernel
theorem d_M_tell_239 : decode b_M_tell 239 = .ok (.getfield 89, 3) := by decide +kernel
theorem d_M_tell_242 : decode b_M_tell 242 = .ok (.iconst 1, 1) := by decide +kernel
theorem d_M_tell_243 : decode b_M_tell 243 = .ok (.iadd, 1) := by decide +kernel
theorem d_M_tell_244 : decode b_M_tell 244 = .ok (.putfield 89, 3) := by decide +kernel
theorem d_M_tell_247 : decode b_M_tell 247 = .ok (.iconst 1, 1) := by decide +kernel
theorem d_M_tell_248 : decode b_M_tell 248 = .ok (.ireturn, 1) := by decide +kernel
def F_M_tell (b : Nat) (a0 : Int32) (a1 : Int32) (a2 : Int32) (a3 : Int32) (a4 : Int64) (a5 : Int32) (mm : gM) : Option (Int32 × gM) :=
  gb1 (grc 10 (some b) mm) fun b4 =>
  gb2 (F_M_isTeller b4 a0 mm) fun v1 mm2 =>
  gLet (fun (p0 : Option Nat) (p1 : Int32) (p2 : Int32) (p3 : Int32) (p4 : Int32) (p5 : Int64) (p7 : Int32) (q0 : Int32) (mm : gM) =>
    if q0 = 0 then (
      some ((-1 : Int32), mm))
    else (
      gb1 (grc 10 p0 mm) fun b10 =>
      gb2 (F_M_told b10 p1 p2 mm) fun v7 mm8 =>
      if v7 < 0 then (
        gb1 (gfR 10 1 p0 mm8) fun v13 =>
        gb1 (gaI 2 v13 p1 mm8) fun v15 =>
        if v15 = 0 then (
          gb1 (gfI 10 2 p0 mm8) fun v18 =>
          if v18 = (200 : Int32) then (
            some ((-1 : Int32), mm8))
          else (
            gb1 (gfR 10 3 p0 mm8) fun v21 =>
            gb1 (gfI 10 2 p0 mm8) fun v23 =>
            gb1 (gsI 0 v21 v23 p1 mm8) fun mm25 =>
            gb1 (gfR 10 4 p0 mm25) fun v27 =>
            gb1 (gfI 10 2 p0 mm25) fun v29 =>
            gb1 (gsI 0 v27 v29 p2 mm25) fun mm31 =>
            gb1 (gfR 10 5 p0 mm31) fun v33 =>
            gb1 (gfI 10 2 p0 mm31) fun v35 =>
            gb1 (gsI 0 v33 v35 p3 mm31) fun mm37 =>
            gb1 (gfR 10 6 p0 mm37) fun v39 =>
            gb1 (gfI 10 2 p0 mm37) fun v41 =>
            gb1 (gsI 0 v39 v41 p4 mm37) fun mm43 =>
            gb1 (gfR 10 7 p0 mm43) fun v45 =>
            gb1 (gfI 10 2 p0 mm43) fun v47 =>
            gb1 (gsL 1 v45 v47 p5 mm43) fun mm49 =>
            gb1 (gfR 10 8 p0 mm49) fun v51 =>
            gb1 (gfI 10 2 p0 mm49) fun v53 =>
            gb1 (gsI 0 v51 v53 p7 mm49) fun mm55 =>
            gb1 (gfI 10 2 p0 mm55) fun v57 =>
            gb1 (gpV 10 2 p0 (.int (v57 + (1 : Int32))) mm55) fun mm59 =>
            some ((1 : Int32), mm59)))
        else (
          some ((-1 : Int32), mm8)))
      else (
        gb1 (gfR 10 5 p0 mm8) fun v61 =>
        gb1 (gaI 0 v61 v7 mm8) fun v63 =>
        if v63 = p3 then (
          gb1 (gfR 10 6 p0 mm8) fun v66 =>
          gb1 (gaI 0 v66 v7 mm8) fun v68 =>
          if v68 = p4 then (
            gb1 (gfR 10 7 p0 mm8) fun v71 =>
            gb1 (gaL 1 v71 v7 mm8) fun v73 =>
            if v73 = p5 then (
              gb1 (gfR 10 8 p0 mm8) fun v76 =>
              gb1 (gaI 0 v76 v7 mm8) fun v78 =>
              if v78 = p7 then (
                some ((0 : Int32), mm8))
              else (
                some ((-1 : Int32), mm8)))
            else (
              some ((-1 : Int32), mm8)))
          else (
            some ((-1 : Int32), mm8)))
        else (
          some ((-1 : Int32), mm8))))) fun J77 =>
  gLet (fun (p0 : Option Nat) (p1 : Int32) (p2 : Int32) (p3 : Int32) (p4 : Int32) (p5 : Int64) (p7 : Int32) (mm : gM) =>
    J77 p0 p1 p2 p3 p4 p5 p7 (0 : Int32) mm) fun J76 =>
  if v1 = 0 then (
    J76 (some b) a0 a1 a2 a3 a4 a5 mm2)
  else (
    gb2 (F_M_isIn (a1).toInt64 (1 : Int64) (9999 : Int64) mm2) fun v82 mm83 =>
    if v82 = 0 then (
      J76 (some b) a0 a1 a2 a3 a4 a5 mm83)
    else (
      gb2 (F_M_isIn (a2).toInt64 (0 : Int64) (15 : Int64) mm83) fun v86 mm87 =>
      if v86 = 0 then (
        J76 (some b) a0 a1 a2 a3 a4 a5 mm87)
      else (
        gb2 (F_M_isIn (a3).toInt64 (0 : Int64) (7 : Int64) mm87) fun v90 mm91 =>
        if v90 = 0 then (
          J76 (some b) a0 a1 a2 a3 a4 a5 mm91)
        else (
          gb2 (F_M_isIn a4 (-1000000000 : Int64) (1000000000 : Int64) mm91) fun v94 mm95 =>
          if v94 = 0 then (
            J76 (some b) a0 a1 a2 a3 a4 a5 mm95)
          else (
            gb2 (F_M_isIn (a5).toInt64 (0 : Int64) (100000 : Int64) mm95) fun v98 mm99 =>
            if v98 = 0 then (
              J76 (some b) a0 a1 a2 a3 a4 a5 mm99)
            else (
              J77 (some b) a0 a1 a2 a3 a4 a5 (1 : Int32) mm99))))))
set_option maxHeartbeats 8000000 in
set_option maxRecDepth 100000 in
theorem w_M_tell {l : Launch} {E : gD} {n0 s0 : Nat} {b : Nat} {a0 : Int32} {a1 : Int32} {a2 : Int32} {a3 : Int32} {a4 : Int64} {a5 : Int32} {r : Int32} {mm res : gM} (h : F_M_tell b a0 a1 a2 a3 a4 a5 mm = some (r, res)) : xX l E Y_M_tell n0 s0 (some (.int r)) res 0 [(0, .inr (.inr (some b))), (1, .inl a0), (2, .inl a1), (3, .inl a2), (4, .inl a3), (5, .inr (.inl a4)), (7, .inl a5)] [] mm := by
  unfold F_M_tell at h
  refine x_aloadn 0 0 d_M_tell_0 rfl rfl ?_
  refine x_iloadn 1 1 d_M_tell_1 rfl rfl ?_
  replace h := gb1_elim h; obtain ⟨b4, h5, h⟩ := h
  replace h := gb2_elim h; obtain ⟨v1, mm2, h3, h⟩ := h
  refine x_callV 2 1 (as := [.inl a0]) (st' := []) (rs := [.inl v1]) (k_M_isTeller h3) rfl cf_M_92 ⟨rfl, by decide +kernel, by decide, by decide, Nat.le_of_ble_eq_true rfl⟩ h5 rfl d_M_tell_2 ?_
  replace h := gLet_elim h; obtain ⟨J77, hJ77, h⟩ := h
  have kJ77 : ∀ (p0 : Option Nat) (p1 : Int32) (p2 : Int32) (p3 : Int32) (p4 : Int32) (p5 : Int64) (p7 : Int32) (q0 : Int32) (mm : gM), J77 p0 p1 p2 p3 p4 p5 p7 q0 mm = some (r, res) → xX l E Y_M_tell n0 s0 (some (.int r)) res 77 [(0, .inr (.inr p0)), (1, .inl p1), (2, .inl p2), (3, .inl p3), (4, .inl p4), (5, .inr (.inl p5)), (7, .inl p7)] [.inl q0] mm := by
    intro p0 p1 p2 p3 p4 p5 p7 q0 mm h
    rw [hJ77] at h
    refine x_istore 77 (lv' := [(8, .inl q0), (0, .inr (.inr p0)), (1, .inl p1), (2, .inl p2), (3, .inl p3), (4, .inl p4), (5, .inr (.inl p5)), (7, .inl p7)]) d_M_tell_77 (by decide) rfl ?_
    refine x_iload 79 0 d_M_tell_79 rfl ?_
    refine x_if_ne 81 86 d_M_tell_81 (by decide) (fun c6 => ?_) (fun c6 => ?_)
    · replace h := gif_t h c6
      refine x_iconst 84 d_M_tell_84 (v := (-1 : Int32)) (by decide +kernel) ?_
      cases h
      exact x_ireturn 85 rfl d_M_tell_85
    · replace h := gif_f h c6
      refine x_aloadn 86 1 d_M_tell_86 rfl rfl ?_
      refine x_iloadn 87 2 d_M_tell_87 rfl rfl ?_
      refine x_iloadn 88 3 d_M_tell_88 rfl rfl ?_
      replace h := gb1_elim h; obtain ⟨b10, h11, h⟩ := h
      replace h := gb2_elim h; obtain ⟨v7, mm8, h9, h⟩ := h
      refine x_callV 89 2 (as := [.inl p1, .inl p2]) (st' := []) (rs := [.inl v7]) (k_M_told h9) rfl cf_M_112 ⟨rfl, by decide +kernel, by decide, by decide, Nat.le_of_ble_eq_true rfl⟩ h11 rfl d_M_tell_89 ?_
      refine x_istore 92 (lv' := [(9, .inl v7), (8, .inl q0), (0, .inr (.inr p0)), (1, .inl p1), (2, .inl p2), (3, .inl p3), (4, .inl p4), (5, .inr (.inl p5)), (7, .inl p7)]) d_M_tell_92 (by decide) rfl ?_
      refine x_iload 94 0 d_M_tell_94 rfl ?_
      refine x_if_lt 96 153 d_M_tell_96 (by decide) (fun c12 => ?_) (fun c12 => ?_)
      · replace h := gif_t h c12
        refine x_aloadn 153 2 d_M_tell_153 rfl rfl ?_
        replace h := gb1_elim h; obtain ⟨v13, h14, h⟩ := h
        refine x_getR 154 h14 fl_M_7 d_M_tell_154 ?_
        refine x_iloadn 157 3 d_M_tell_157 rfl rfl ?_
        replace h := gb1_elim h; obtain ⟨v15, h16, h⟩ := h
        refine x_zald 158 rfl h16 d_M_tell_158 ?_
        refine x_if_ne 159 172 d_M_tell_159 (by decide) (fun c17 => ?_) (fun c17 => ?_)
        · replace h := gif_t h c17
          refine x_aloadn 162 2 d_M_tell_162 rfl rfl ?_
          replace h := gb1_elim h; obtain ⟨v18, h19, h⟩ := h
          refine x_getI 163 h19 fl_M_89 d_M_tell_163 ?_
          refine x_sipush 166 d_M_tell_166 (v := (200 : Int32)) (by decide +kernel) ?_
          refine x_icmp_ne 169 174 d_M_tell_169 (by decide) (fun c20 => ?_) (fun c20 => ?_)
          · replace h := gif_t h c20
            refine x_iconst 172 d_M_tell_172 (v := (-1 : Int32)) (by decide +kernel) ?_
            cases h
            exact x_ireturn 173 rfl d_M_tell_173
          · replace h := gif_f h c20
            refine x_aloadn 174 2 d_M_tell_174 rfl rfl ?_
            replace h := gb1_elim h; obtain ⟨v21, h22, h⟩ := h
            refine x_getR 175 h22 fl_M_13 d_M_tell_175 ?_
            refine x_aloadn 178 2 d_M_tell_178 rfl rfl ?_
            replace h := gb1_elim h; obtain ⟨v23, h24, h⟩ := h
            refine x_getI 179 h24 fl_M_89 d_M_tell_179 ?_
            refine x_iloadn 182 3 d_M_tell_182 rfl rfl ?_
            replace h := gb1_elim h; obtain ⟨mm25, h26, h⟩ := h
            refine x_iast 183 (by decide) rfl h26 d_M_tell_183 ?_
            refine x_aloadn 184 2 d_M_tell_184 rfl rfl ?_
            replace h := gb1_elim h; obtain ⟨v27, h28, h⟩ := h
            refine x_getR 185 h28 fl_M_17 d_M_tell_185 ?_
            refine x_aloadn 188 2 d_M_tell_188 rfl rfl ?_
            replace h := gb1_elim h; obtain ⟨v29, h30, h⟩ := h
            refine x_getI 189 h30 fl_M_89 d_M_tell_189 ?_
            refine x_iloadn 192 4 d_M_tell_192 rfl rfl ?_
            replace h := gb1_elim h; obtain ⟨mm31, h32, h⟩ := h
            refine x_iast 193 (by decide) rfl h32 d_M_tell_193 ?_
            refine x_aloadn 194 2 d_M_tell_194 rfl rfl ?_
            replace h := gb1_elim h; obtain ⟨v33, h34, h⟩ := h
            refine x_getR 195 h34 fl_M_20 d_M_tell_195 ?_
            refine x_aloadn 198 2 d_M_tell_198 rfl rfl ?_
            replace h := gb1_elim h; obtain ⟨v35, h36, h⟩ := h
            refine x_getI 199 h36 fl_M_89 d_M_tell_199 ?_
            refine x_iloadn 202 5 d_M_tell_202 rfl rfl ?_
            replace h := gb1_elim h; obtain ⟨mm37, h38, h⟩ := h
            refine x_iast 203 (by decide) rfl h38 d_M_tell_203 ?_
            refine x_aloadn 204 2 d_M_tell_204 rfl rfl ?_
            replace h := gb1_elim h; obtain ⟨v39, h40, h⟩ := h
            refine x_getR 205 h40 fl_M_23 d_M_tell_205 ?_
            refine x_aloadn 208 2 d_M_tell_208 rfl rfl ?_
            replace h := gb1_elim h; obtain ⟨v41, h42, h⟩ := h
            refine x_getI 209 h42 fl_M_89 d_M_tell_209 ?_
            refine x_iload 212 6 d_M_tell_212 rfl ?_
            replace h := gb1_elim h; obtain ⟨mm43, h44, h⟩ := h
            refine x_iast 214 (by decide) rfl h44 d_M_tell_214 ?_
            refine x_aloadn 215 2 d_M_tell_215 rfl rfl ?_
            replace h := gb1_elim h; obtain ⟨v45, h46, h⟩ := h
            refine x_getR 216 h46 fl_M_26 d_M_tell_216 ?_
            refine x_aloadn 219 2 d_M_tell_219 rfl rfl ?_
            replace h := gb1_elim h; obtain ⟨v47, h48, h⟩ := h
            refine x_getI 220 h48 fl_M_89 d_M_tell_220 ?_
            refine x_lload 223 7 d_M_tell_223 rfl ?_
            replace h := gb1_elim h; obtain ⟨mm49, h50, h⟩ := h
            refine x_last 225 (by decide) rfl h50 d_M_tell_225 ?_
            refine x_aloadn 226 2 d_M_tell_226 rfl rfl ?_
            replace h := gb1_elim h; obtain ⟨v51, h52, h⟩ := h
            refine x_getR 227 h52 fl_M_30 d_M_tell_227 ?_
            refine x_aloadn 230 2 d_M_tell_230 rfl rfl ?_
            replace h := gb1_elim h; obtain ⟨v53, h54, h⟩ := h
            refine x_getI 231 h54 fl_M_89 d_M_tell_231 ?_
            refine x_iload 234 8 d_M_tell_234 rfl ?_
            replace h := gb1_elim h; obtain ⟨mm55, h56, h⟩ := h
            refine x_iast 236 (by decide) rfl h56 d_M_tell_236 ?_
            refine x_aloadn 237 2 d_M_tell_237 rfl rfl ?_
            refine x_dup 238 d_M_tell_238 rfl ?_
            replace h := gb1_elim h; obtain ⟨v57, h58, h⟩ := h
            refine x_getI 239 h58 fl_M_89 d_M_tell_239 ?_
            refine x_iconst 242 d_M_tell_242 (v := (1 : Int32)) (by decide +kernel) ?_
            refine x_iadd 243 d_M_tell_243 ?_
            replace h := gb1_elim h; obtain ⟨mm59, h60, h⟩ := h
            refine x_putV 244 fp_M_89 rfl rfl h60 d_M_tell_244 ?_
            refine x_iconst 247 d_M_tell_247 (v := (1 : Int32)) (by decide +kernel) ?_
            cases h
            exact x_ireturn 248 rfl d_M_tell_248
        · replace h := gif_f h c17
          refine x_iconst 172 d_M_tell_172 (v := (-1 : Int32)) (by decide +kernel) ?_
          cases h
          exact x_ireturn 173 rfl d_M_tell_173
      · replace h := gif_f h c12
        refine x_aloadn 99 2 d_M_tell_99 rfl rfl ?_
        replace h := gb1_elim h; obtain ⟨v61, h62, h⟩ := h
        refine x_getR 100 h62 fl_M_20 d_M_tell_100 ?_
        refine x_iload 103 0 d_M_tell_103 rfl ?_
        replace h := gb1_elim h; obtain ⟨v63, h64, h⟩ := h
        refine x_iald 105 rfl h64 d_M_tell_105 ?_
        refine x_iloadn 106 5 d_M_tell_106 rfl rfl ?_
        refine x_icmp_ne 107 151 d_M_tell_107 (by decide) (fun c65 => ?_) (fun c65 => ?_)
        · replace h := gif_t h c65
          refine x_aloadn 110 2 d_M_tell_110 rfl rfl ?_
          replace h := gb1_elim h; obtain ⟨v66, h67, h⟩ := h
          refine x_getR 111 h67 fl_M_23 d_M_tell_111 ?_
          refine x_iload 114 0 d_M_tell_114 rfl ?_
          replace h := gb1_elim h; obtain ⟨v68, h69, h⟩ := h
          refine x_iald 116 rfl h69 d_M_tell_116 ?_
          refine x_iload 117 6 d_M_tell_117 rfl ?_
          refine x_icmp_ne 119 151 d_M_tell_119 (by decide) (fun c70 => ?_) (fun c70 => ?_)
          · replace h := gif_t h c70
            refine x_aloadn 122 2 d_M_tell_122 rfl rfl ?_
            replace h := gb1_elim h; obtain ⟨v71, h72, h⟩ := h
            refine x_getR 123 h72 fl_M_26 d_M_tell_123 ?_
            refine x_iload 126 0 d_M_tell_126 rfl ?_
            replace h := gb1_elim h; obtain ⟨v73, h74, h⟩ := h
            refine x_lald 128 rfl h74 d_M_tell_128 ?_
            refine x_lload 129 7 d_M_tell_129 rfl ?_
            refine x_lc_ne 131 151 d_M_tell_131 d_M_tell_132 (by decide) (fun c75 => ?_) (fun c75 => ?_)
            · replace h := gif_t h c75
              refine x_aloadn 135 2 d_M_tell_135 rfl rfl ?_
              replace h := gb1_elim h; obtain ⟨v76, h77, h⟩ := h
              refine x_getR 136 h77 fl_M_30 d_M_tell_136 ?_
              refine x_iload 139 0 d_M_tell_139 rfl ?_
              replace h := gb1_elim h; obtain ⟨v78, h79, h⟩ := h
              refine x_iald 141 rfl h79 d_M_tell_141 ?_
              refine x_iload 142 8 d_M_tell_142 rfl ?_
              refine x_icmp_ne 144 151 d_M_tell_144 (by decide) (fun c80 => ?_) (fun c80 => ?_)
              · replace h := gif_t h c80
                refine x_iconst 147 d_M_tell_147 (v := (0 : Int32)) (by decide +kernel) ?_
                refine x_goto 148 152 d_M_tell_148 (by decide) ?_
                cases h
                exact x_ireturn 152 rfl d_M_tell_152
              · replace h := gif_f h c80
                refine x_iconst 151 d_M_tell_151 (v := (-1 : Int32)) (by decide +kernel) ?_
                cases h
                exact x_ireturn 152 rfl d_M_tell_152
            · replace h := gif_f h c75
              refine x_iconst 151 d_M_tell_151 (v := (-1 : Int32)) (by decide +kernel) ?_
              cases h
              exact x_ireturn 152 rfl d_M_tell_152
          · replace h := gif_f h c70
            refine x_iconst 151 d_M_tell_151 (v := (-1 : Int32)) (by decide +kernel) ?_
            cases h
            exact x_ireturn 152 rfl d_M_tell_152
        · replace h := gif_f h c65
          refine x_iconst 151 d_M_tell_151 (v := (-1 : Int32)) (by decide +kernel) ?_
          cases h
          exact x_ireturn 152 rfl d_M_tell_152
  replace h := gLet_elim h; obtain ⟨J76, hJ76, h⟩ := h
  have kJ76 : ∀ (p0 : Option Nat) (p1 : Int32) (p2 : Int32) (p3 : Int32) (p4 : Int32) (p5 : Int64) (p7 : Int32) (mm : gM), J76 p0 p1 p2 p3 p4 p5 p7 mm = some (r, res) → xX l E Y_M_tell n0 s0 (some (.int r)) res 76 [(0, .inr (.inr p0)), (1, .inl p1), (2, .inl p2), (3, .inl p3), (4, .inl p4), (5, .inr (.inl p5)), (7, .inl p7)] [] mm := by
    intro p0 p1 p2 p3 p4 p5 p7 mm h
    rw [hJ76] at h
    refine x_iconst 76 d_M_tell_76 (v := (0 : Int32)) (by decide +kernel) ?_
    exact kJ77 _ _ _ _ _ _ _ _ _ h
  refine x_if_eq 5 76 d_M_tell_5 (by decide) (fun c81 => ?_) (fun c81 => ?_)
  · replace h := gif_t h c81
    exact kJ76 _ _ _ _ _ _ _ _ h
  · replace h := gif_f h c81
    refine x_iloadn 8 2 d_M_tell_8 rfl rfl ?_
    refine x_i2l 9 d_M_tell_9 ?_
    refine x_lconst 10 d_M_tell_10 (v := (1 : Int64)) (by decide +kernel) ?_
    refine x_ldc2 11 d_M_tell_11 (v := (9999 : Int64)) (gT_in3 128 rfl) ?_
    replace h := gb2_elim h; obtain ⟨v82, mm83, h84, h⟩ := h
    refine x_callS 14 3 (as := [.inr (.inl (a1).toInt64), .inr (.inl (1 : Int64)), .inr (.inl (9999 : Int64))]) (st' := []) (rs := [.inl v82]) (k_M_isIn h84) rfl cf_M_98 ⟨rfl, by decide +kernel, by decide, by decide, Nat.le_of_ble_eq_true rfl⟩ rfl d_M_tell_14 ?_
    refine x_if_eq 17 76 d_M_tell_17 (by decide) (fun c85 => ?_) (fun c85 => ?_)
    · replace h := gif_t h c85
      exact kJ76 _ _ _ _ _ _ _ _ h
    · replace h := gif_f h c85
      refine x_iloadn 20 3 d_M_tell_20 rfl rfl ?_
      refine x_i2l 21 d_M_tell_21 ?_
      refine x_lconst 22 d_M_tell_22 (v := (0 : Int64)) (by decide +kernel) ?_
      refine x_ldc2 23 d_M_tell_23 (v := (15 : Int64)) (gT_in3 132 rfl) ?_
      replace h := gb2_elim h; obtain ⟨v86, mm87, h88, h⟩ := h
      refine x_callS 26 3 (as := [.inr (.inl (a2).toInt64), .inr (.inl (0 : Int64)), .inr (.inl (15 : Int64))]) (st' := []) (rs := [.inl v86]) (k_M_isIn h88) rfl cf_M_98 ⟨rfl, by decide +kernel, by decide, by decide, Nat.le_of_ble_eq_true rfl⟩ rfl d_M_tell_26 ?_
      refine x_if_eq 29 76 d_M_tell_29 (by decide) (fun c89 => ?_) (fun c89 => ?_)
      · replace h := gif_t h c89
        exact kJ76 _ _ _ _ _ _ _ _ h
      · replace h := gif_f h c89
        refine x_iload 32 4 d_M_tell_32 rfl ?_
        refine x_i2l 34 d_M_tell_34 ?_
        refine x_lconst 35 d_M_tell_35 (v := (0 : Int64)) (by decide +kernel) ?_
        refine x_ldc2 36 d_M_tell_36 (v := (7 : Int64)) (gT_in3 133 rfl) ?_
        replace h := gb2_elim h; obtain ⟨v90, mm91, h92, h⟩ := h
        refine x_callS 39 3 (as := [.inr (.inl (a3).toInt64), .inr (.inl (0 : Int64)), .inr (.inl (7 : Int64))]) (st' := []) (rs := [.inl v90]) (k_M_isIn h92) rfl cf_M_98 ⟨rfl, by decide +kernel, by decide, by decide, Nat.le_of_ble_eq_true rfl⟩ rfl d_M_tell_39 ?_
        refine x_if_eq 42 76 d_M_tell_42 (by decide) (fun c93 => ?_) (fun c93 => ?_)
        · replace h := gif_t h c93
          exact kJ76 _ _ _ _ _ _ _ _ h
        · replace h := gif_f h c93
          refine x_lload 45 5 d_M_tell_45 rfl ?_
          refine x_ldc2 47 d_M_tell_47 (v := (-1000000000 : Int64)) (gT_in3 134 rfl) ?_
          refine x_ldc2 50 d_M_tell_50 (v := (1000000000 : Int64)) (gT_in3 135 rfl) ?_
          replace h := gb2_elim h; obtain ⟨v94, mm95, h96, h⟩ := h
          refine x_callS 53 3 (as := [.inr (.inl a4), .inr (.inl (-1000000000 : Int64)), .inr (.inl (1000000000 : Int64))]) (st' := []) (rs := [.inl v94]) (k_M_isIn h96) rfl cf_M_98 ⟨rfl, by decide +kernel, by decide, by decide, Nat.le_of_ble_eq_true rfl⟩ rfl d_M_tell_53 ?_
          refine x_if_eq 56 76 d_M_tell_56 (by decide) (fun c97 => ?_) (fun c97 => ?_)
          · replace h := gif_t h c97
            exact kJ76 _ _ _ _ _ _ _ _ h
          · replace h := gif_f h c97
            refine x_iload 59 6 d_M_tell_59 rfl ?_
            refine x_i2l 61 d_M_tell_61 ?_
            refine x_lconst 62 d_M_tell_62 (v := (0 : Int64)) (by decide +kernel) ?_
            refine x_ldc2 63 d_M_tell_63 (v := (100000 : Int64)) (gT_in3 136 rfl) ?_
            replace h := gb2_elim h; obtain ⟨v98, mm99, h100, h⟩ := h
            refine x_callS 66 3 (as := [.inr (.inl (a5).toInt64), .inr (.inl (0 : Int64)), .inr (.inl (100000 : Int64))]) (st' := []) (rs := [.inl v98]) (k_M_isIn h100) rfl cf_M_98 ⟨rfl, by decide +kernel, by decide, by decide, Nat.le_of_ble_eq_true rfl⟩ rfl d_M_tell_66 ?_
            refine x_if_eq 69 76 d_M_tell_69 (by decide) (fun c101 => ?_) (fun c101 => ?_)
            · replace h := gif_t h c101
              exact kJ76 _ _ _ _ _ _ _ _ h
            · replace h := gif_f h c101
              refine x_iconst 72 d_M_tell_72 (v := (1 : Int32)) (by decide +kernel) ?_
              refine x_goto 73 77 d_M_tell_73 (by decide) ?_
              exact kJ77 _ _ _ _ _ _ _ _ _ h
theorem k_M_tell {b : Nat} {a0 : Int32} {a1 : Int32} {a2 : Int32} {a3 : Int32} {a4 : Int64} {a5 : Int32} {r : Int32} {mm res : gM} (h : F_M_tell b a0 a1 a2 a3 a4 a5 mm = some (r, res)) : ∀ (l : Launch) (E : gD), gLe mm res ∧ gMet l E Y_M_tell y_M_tell [.inr (.inr (some b)), .inl a0, .inl a1, .inl a2, .inl a3, .inr (.inl a4), .inl a5] (some (.int r)) mm res :=
  fun l E => ⟨(w_M_tell (l := l) (E := E) (n0 := 0) (s0 := 0) h).1, x_met (by decide +kernel) rfl rfl rfl (Nat.le_of_ble_eq_true rfl) (w_M_tell h)⟩
theorem d_Holding_init_0 : decode b_Holding_init 0 = .ok (.aload_n 0, 1) := by decide +kernel
theorem d_Holding_init_1 : decode b_Holding_init 1 = .ok (.invokespecial 3, 3) := by decide +kernel
theorem d_Holding_init_4 : decode b_Holding_init 4 = .ok (.aload_n 0, 1) := by decide +kernel
theorem d_Holding_init_5 : decode b_Holding_init 5 = .ok (.bipush 8, 2) := by decide +kernel
theorem d_Holding_init_7 : decode b_Holding_init 7 = .ok (.newarray .int, 2) := by decide +kernel
theorem d_Holding_init_9 : decode b_Holding_init 9 = .ok (.putfield 9, 3) := by decide +kernel
theorem d_Holding_init_12 : decode b_Holding_init 12 = .ok (.aload_n 0, 1) := by decide +kernel
theorem d_Holding_init_13 : decode b_Holding_init 13 = .ok (.lconst 0, 1) := by decide +kernel
theorem d_Holding_init_14 : decode b_Holding_init 14 = .ok (.putfield 15, 3) := by decide +kernel
theorem d_Holding_init_17 : decode b_Holding_init 17 = .ok (.return_, 1) := by decide +kernel
def F_Holding_init (b : Nat) (mm : gM) : Option (Unit × gM) :=
  gb2 (gnI 0 (8 : Int32) mm) fun v1 mm3 =>
  gb1 (gpV 5 0 (some b) (va_rf v1) mm3) fun mm4 =>
  gb1 (gpV 5 1 (some b) (.long (0 : Int64)) mm4) fun mm6 =>
  some ((), mm6)
set_option maxHeartbeats 8000000 in
set_option maxRecDepth 100000 in
theorem w_Holding_init {l : Launch} {E : gD} {n0 s0 : Nat} {b : Nat} {r : Unit} {mm res : gM} (h : F_Holding_init b mm = some (r, res)) : xX l E Y_Holding_init n0 s0 none res 0 [(0, .inr (.inr (some b)))] [] mm := by
  unfold F_Holding_init at h
  refine x_aloadn 0 0 d_Holding_init_0 rfl rfl ?_
  refine x_objinit 1 rfl (gT_in1 124 rfl) (gT_in0 26 rfl) (gT_in0 27 rfl) (by decide) (by decide) d_Holding_init_1 ?_
  refine x_aloadn 4 0 d_Holding_init_4 rfl rfl ?_
  refine x_bipush 5 d_Holding_init_5 (v := (8 : Int32)) (by decide +kernel) ?_
  replace h := gb2_elim h; obtain ⟨v1, mm3, h2, h⟩ := h
  refine x_newI 7 (by decide) rfl (gT_in0 60 rfl) h2 d_Holding_init_7 ?_
  replace h := gb1_elim h; obtain ⟨mm4, h5, h⟩ := h
  refine x_putF 9 fp_Holding_9 rfl (g_nA _ _) (g_fA _ _) h5 d_Holding_init_9 ?_
  refine x_aloadn 12 0 d_Holding_init_12 rfl rfl ?_
  refine x_lconst 13 d_Holding_init_13 (v := (0 : Int64)) (by decide +kernel) ?_
  replace h := gb1_elim h; obtain ⟨mm6, h7, h⟩ := h
  refine x_putV 14 fp_Holding_15 rfl rfl h7 d_Holding_init_14 ?_
  cases h
  exact x_return 17 rfl d_Holding_init_17
theorem k_Holding_init {b : Nat} {r : Unit} {mm res : gM} (h : F_Holding_init b mm = some (r, res)) : ∀ (l : Launch) (E : gD), gLe mm res ∧ gMet l E Y_Holding_init y_Holding_init [.inr (.inr (some b))] none mm res :=
  fun l E => ⟨(w_Holding_init (l := l) (E := E) (n0 := 0) (s0 := 0) h).1, x_met (by decide +kernel) rfl rfl rfl (Nat.le_of_ble_eq_true rfl) (w_Holding_init h)⟩
theorem d_ShipSet_init_0 : decode b_ShipSet_init 0 = .ok (.aload_n 0, 1) := by decide +kernel
theorem d_ShipSet_init_1 : decode b_ShipSet_init 1 = .ok (.invokespecial 1, 3) := by decide +kernel
theorem d_ShipSet_init_4 : decode b_ShipSet_init 4 = .ok (.aload_n 0, 1) := by decide +kernel
theorem d_ShipSet_init_5 : decode b_ShipSet_init 5 = .ok (.new 7, 3) := by decide +kernel
theorem d_ShipSet_init_8 : decode b_ShipSet_init 8 = .ok (.dup, 1) := by decide +kernel
theorem d_ShipSet_init_9 : decode b_ShipSet_init 9 = .ok (.invokespecial 9, 3) := by decide +kernel
theorem d_ShipSet_init_12 : decode b_ShipSet_init 12 = .ok (.putfield 10, 3) := by decide +kernel
theorem d_ShipSet_init_15 : decode b_ShipSet_init 15 = .ok (.aload_n 0, 1) := by decide +kernel
theorem d_ShipSet_init_16 : decode b_ShipSet_init 16 = .ok (.new 7, 3) := by decide +kernel
theorem d_ShipSet_init_19 : decode b_ShipSet_init 19 = .ok (.dup, 1) := by decide +kernel
theorem d_ShipSet_init_20 : decode b_ShipSet_init 20 = .ok (.invokespecial 9, 3) := by decide +kernel
theorem d_ShipSet_init_23 : decode b_ShipSet_init 23 = .ok (.putfield 16, 3) := by decide +kernel
theorem d_ShipSet_init_26 : decode b_ShipSet_init 26 = .ok (.aload_n 0, 1) := by decide +kernel
theorem d_ShipSet_init_27 : decode b_ShipSet_init 27 = .ok (.iconst 0, 1) := by decide +kernel
theorem d_ShipSet_init_28 : decode b_ShipSet_init 28 = .ok (.putfield 19, 3) := by decide +kernel
theorem d_ShipSet_init_31 : decode b_ShipSet_init 31 = .ok (.return_, 1) := by decide +kernel
def F_ShipSet_init (b : Nat) (mm : gM) : Option (Unit × gM) :=
  gb2 (gnO 5 [.null, .long 0] 2 mm) fun v1 mm3 =>
  gb1 v1 fun b7 =>
  gb2 (F_Holding_init b7  mm3) fun v4 mm5 =>
  gb1 (gpV 4 0 (some b) (va_rf (some b7)) mm5) fun mm9 =>
  gb2 (gnO 5 [.null, .long 0] 2 mm9) fun v11 mm13 =>
  gb1 v11 fun b17 =>
  gb2 (F_Holding_init b17  mm13) fun v14 mm15 =>
  gb1 (gpV 4 1 (some b) (va_rf (some b17)) mm15) fun mm19 =>
  gb1 (gpV 4 2 (some b) (.int (0 : Int32)) mm19) fun mm21 =>
  some ((), mm21)
set_option maxHeartbeats 8000000 in
set_option maxRecDepth 100000 in
theorem w_ShipSet_init {l : Launch} {E : gD} {n0 s0 : Nat} {b : Nat} {r : Unit} {mm res : gM} (h : F_ShipSet_init b mm = some (r, res)) : xX l E Y_ShipSet_init n0 s0 none res 0 [(0, .inr (.inr (some b)))] [] mm := by
  unfold F_ShipSet_init at h
  refine x_aloadn 0 0 d_ShipSet_init_0 rfl rfl ?_
  refine x_objinit 1 rfl (gT_in1 119 rfl) (gT_in0 26 rfl) (gT_in0 27 rfl) (by decide) (by decide) d_ShipSet_init_1 ?_
  refine x_aloadn 4 0 d_ShipSet_init_4 rfl rfl ?_
  replace h := gb2_elim h; obtain ⟨v1, mm3, h2, h⟩ := h
  refine x_new 5 nw_ShipSet_7 h2 d_ShipSet_init_5 ?_
  refine x_dup 8 d_ShipSet_init_8 rfl ?_
  replace h := gb1_elim h; obtain ⟨b7, h8, h⟩ := h
  subst h8
  replace h := gb2_elim h; obtain ⟨v4, mm5, h6, h⟩ := h
  refine x_callI 9 0 (as := []) (st' := [.inr (.inr (some b7)), .inr (.inr (some b))]) (k_Holding_init h6) cf_ShipSet_9 ⟨rfl, by decide +kernel, by decide, by decide, Nat.le_of_ble_eq_true rfl⟩ rfl d_ShipSet_init_9 ?_
  replace h := gb1_elim h; obtain ⟨mm9, h10, h⟩ := h
  refine x_putF 12 fp_ShipSet_10 rfl (g_nR _ _) (g_fR _ _) h10 d_ShipSet_init_12 ?_
  refine x_aloadn 15 0 d_ShipSet_init_15 rfl rfl ?_
  replace h := gb2_elim h; obtain ⟨v11, mm13, h12, h⟩ := h
  refine x_new 16 nw_ShipSet_7 h12 d_ShipSet_init_16 ?_
  refine x_dup 19 d_ShipSet_init_19 rfl ?_
  replace h := gb1_elim h; obtain ⟨b17, h18, h⟩ := h
  subst h18
  replace h := gb2_elim h; obtain ⟨v14, mm15, h16, h⟩ := h
  refine x_callI 20 0 (as := []) (st' := [.inr (.inr (some b17)), .inr (.inr (some b))]) (k_Holding_init h16) cf_ShipSet_9 ⟨rfl, by decide +kernel, by decide, by decide, Nat.le_of_ble_eq_true rfl⟩ rfl d_ShipSet_init_20 ?_
  replace h := gb1_elim h; obtain ⟨mm19, h20, h⟩ := h
  refine x_putF 23 fp_ShipSet_16 rfl (g_nR _ _) (g_fR _ _) h20 d_ShipSet_init_23 ?_
  refine x_aloadn 26 0 d_ShipSet_init_26 rfl rfl ?_
  refine x_iconst 27 d_ShipSet_init_27 (v := (0 : Int32)) (by decide +kernel) ?_
  replace h := gb1_elim h; obtain ⟨mm21, h22, h⟩ := h
  refine x_putV 28 fp_ShipSet_19 (g_nZ (by decide)) (g_fZ (by decide)) h22 d_ShipSet_init_28 ?_
  cases h
  exact x_return 31 rfl d_ShipSet_init_31
theorem k_ShipSet_init {b : Nat} {r : Unit} {mm res : gM} (h : F_ShipSet_init b mm = some (r, res)) : ∀ (l : Launch) (E : gD), gLe mm res ∧ gMet l E Y_ShipSet_init y_ShipSet_init [.inr (.inr (some b))] none mm res :=
  fun l E => ⟨(w_ShipSet_init (l := l) (E := E) (n0 := 0) (s0 := 0) h).1, x_met (by decide +kernel) rfl rfl rfl (Nat.le_of_ble_eq_true rfl) (w_ShipSet_init h)⟩
theorem d_S_set_0 : decode b_S_set 0 = .ok (.aload_n 0, 1) := by decide +kernel
theorem d_S_set_1 : decode b_S_set 1 = .ok (.iload_n 1, 1) := by decide +kernel
theorem d_S_set_2 : decode b_S_set 2 = .ok (.invokevirtual 56, 3) := by decide +kernel
theorem d_S_set_5 : decode b_S_set 5 = .ok (.astore_n 2, 1) := by decide +kernel
theorem d_S_set_6 : decode b_S_set 6 = .ok (.aload_n 2, 1) := by decide +kernel
theorem d_S_set_7 : decode b_S_set 7 = .ok (.ifnull 15, 3) := by decide +kernel
theorem d_S_set_10 : decode b_S_set 10 = .ok (.aload_n 0, 1) := by decide +kernel
theorem d_S_set_11 : decode b_S_set 11 = .ok (.getfield 18, 3) := by decide +kernel
theorem d_S_set_14 : decode b_S_set 14 = .ok (.invokevirtual 45, 3) := by decide +kernel
theorem d_S_set_17 : decode b_S_set 17 = .ok (.bipush 12, 2) := by decide +kernel
theorem d_S_set_19 : decode b_S_set 19 = .ok (.if_icmp .lt 5, 3) := by decide +kernel
theorem d_S_set_22 : decode b_S_set 22 = .ok (.iconst (-1), 1) := by decide +kernel
theorem d_S_set_23 : decode b_S_set 23 = .ok (.ireturn, 1) := by decide +kernel
theorem d_S_set_24 : decode b_S_set 24 = .ok (.new 97, 3) := by decide +kernel
theorem d_S_set_27 : decode b_S_set 27 = .ok (.dup, 1) := by decide +kernel
theorem d_S_set_28 : decode b_S_set 28 = .ok (.invokespecial 99, 3) := by decide +kernel
theorem d_S_set_31 : decode b_S_set 31 = .ok (.astore_n 3, 1) := by decide +kernel
theorem d_S_set_32 : decode b_S_set 32 = .ok (.aload_n 3, 1) := by decide +kernel
theorem d_S_set_33 : decode b_S_set 33 = .ok (.getfield 100, 3) := by decide +kernel
theorem d_S_set_36 : decode b_S_set 36 = .ok (.getfield 104, 3) := by decide +kernel
theorem d_S_set_39 : decode b_S_set 39 = .ok (.iload_n 1, 1) := by decide +kernel
theorem d_S_set_40 : decode b_S_set 40 = .ok (.aload_n 2, 1) := by decide +kernel
theorem d_S_set_41 : decode b_S_set 41 = .ok (.getfield 87, 3) := by decide +kernel
theorem d_S_set_44 : decode b_S_set 44 = .ok (.invokevirtual 45, 3) := by decide +kernel
theorem d_S_set_47 : decode b_S_set 47 = .ok (.iastore, 1) := by decide +kernel
theorem d_S_set_48 : decode b_S_set 48 = .ok (.aload_n 0, 1) := by decide +kernel
theorem d_S_set_49 : decode b_S_set 49 = .ok (.getfield 18, 3) := by decide +kernel
theorem d_S_set_52 : decode b_S_set 52 = .ok (.aload_n 3, 1) := by decide +kernel
theorem d_S_set_53 : decode b_S_set 53 = .ok (.invokevirtual 52, 3) := by decide +kernel
theorem d_S_set_56 : decode b_S_set 56 = .ok (.pop, 1) := by decide +kernel
theorem d_S_set_57 : decode b_S_set 57 = .ok (.aload_n 0, 1) := by decide +kernel
theorem d_S_set_58 : decode b_S_set 58 = .ok (.getfield 18, 3) := by decide +kernel
theorem d_S_set_61 : decode b_S_set 61 = .ok (.invokevirtual 45, 3) := by decide +kernel
theorem d_S_set_64 : decode b_S_set 64 = .ok (.iconst 1, 1) := by decide +kernel
theorem d_S_set_65 : decode b_S_set 65 = .ok (.isub, 1) := by decide +kernel
theorem d_S_set_66 : decode b_S_set 66 = .ok (.ireturn, 1) := by decide +kernel
def F_S_set (b : Nat) (a0 : Int32) (mm : gM) : Option (Int32 × gM) :=
  gb1 (grc 0 (some b) mm) fun b4 =>
  gb2 (F_S_tellerAt b4 a0 mm) fun v1 mm2 =>
  if v1 = none then (
    some ((-1 : Int32), mm2))
  else (
    gb1 (gfR 0 1 (some b) mm2) fun v7 =>
    gb1 (grc 9 v7 mm2) fun b12 =>
    gb2 (F_AL_size b12  mm2) fun v9 mm10 =>
    if v9 < (12 : Int32) then (
      gb2 (gnO 4 [.null, .null, .int 0] 3 mm10) fun v15 mm17 =>
      gb1 v15 fun b21 =>
      gb2 (F_ShipSet_init b21  mm17) fun v18 mm19 =>
      gb1 (gfR 4 0 (some b21) mm19) fun v23 =>
      gb1 (gfR 5 0 v23 mm19) fun v25 =>
      gb1 (gfR 1 0 v1 mm19) fun v27 =>
      gb1 (grc 9 v27 mm19) fun b32 =>
      gb2 (F_AL_size b32  mm19) fun v29 mm30 =>
      gb1 (gsI 0 v25 a0 v29 mm30) fun mm34 =>
      gb1 (gfR 0 1 (some b) mm34) fun v36 =>
      gb1 (grc 9 v36 mm34) fun b41 =>
      gb2 (F_AL_add b41 (some b21) mm34) fun v38 mm39 =>
      gb1 (gfR 0 1 (some b) mm39) fun v43 =>
      gb1 (grc 9 v43 mm39) fun b48 =>
      gb2 (F_AL_size b48  mm39) fun v45 mm46 =>
      some ((v45 - (1 : Int32)), mm46))
    else (
      some ((-1 : Int32), mm10)))
set_option maxHeartbeats 8000000 in
set_option maxRecDepth 100000 in
theorem w_S_set {l : Launch} {E : gD} {n0 s0 : Nat} {b : Nat} {a0 : Int32} {r : Int32} {mm res : gM} (h : F_S_set b a0 mm = some (r, res)) : xX l E Y_S_set n0 s0 (some (.int r)) res 0 [(0, .inr (.inr (some b))), (1, .inl a0)] [] mm := by
  unfold F_S_set at h
  refine x_aloadn 0 0 d_S_set_0 rfl rfl ?_
  refine x_iloadn 1 1 d_S_set_1 rfl rfl ?_
  replace h := gb1_elim h; obtain ⟨b4, h5, h⟩ := h
  replace h := gb2_elim h; obtain ⟨v1, mm2, h3, h⟩ := h
  refine x_callV 2 1 (as := [.inl a0]) (st' := []) (rs := [.inr (.inr v1)]) (k_S_tellerAt h3) rfl cf_S_56 ⟨rfl, by decide +kernel, by decide, by decide, Nat.le_of_ble_eq_true rfl⟩ h5 rfl d_S_set_2 ?_
  refine x_astoren 5 (lv' := [(2, .inr (.inr v1)), (0, .inr (.inr (some b))), (1, .inl a0)]) d_S_set_5 rfl (by decide) rfl ?_
  refine x_aloadn 6 0 d_S_set_6 rfl rfl ?_
  refine x_ifnull 7 22 d_S_set_7 (by decide) (fun c6 => ?_) (fun c6 => ?_)
  · replace h := gif_t h c6
    refine x_iconst 22 d_S_set_22 (v := (-1 : Int32)) (by decide +kernel) ?_
    cases h
    exact x_ireturn 23 rfl d_S_set_23
  · replace h := gif_f h c6
    refine x_aloadn 10 1 d_S_set_10 rfl rfl ?_
    replace h := gb1_elim h; obtain ⟨v7, h8, h⟩ := h
    refine x_getR 11 h8 fl_S_18 d_S_set_11 ?_
    replace h := gb1_elim h; obtain ⟨b12, h13, h⟩ := h
    replace h := gb2_elim h; obtain ⟨v9, mm10, h11, h⟩ := h
    refine x_callV 14 0 (as := []) (st' := []) (rs := [.inl v9]) (k_AL_size h11) rfl cf_S_45 ⟨rfl, by decide +kernel, by decide, by decide, Nat.le_of_ble_eq_true rfl⟩ h13 rfl d_S_set_14 ?_
    refine x_bipush 17 d_S_set_17 (v := (12 : Int32)) (by decide +kernel) ?_
    refine x_icmp_lt 19 24 d_S_set_19 (by decide) (fun c14 => ?_) (fun c14 => ?_)
    · replace h := gif_t h c14
      replace h := gb2_elim h; obtain ⟨v15, mm17, h16, h⟩ := h
      refine x_new 24 nw_S_97 h16 d_S_set_24 ?_
      refine x_dup 27 d_S_set_27 rfl ?_
      replace h := gb1_elim h; obtain ⟨b21, h22, h⟩ := h
      subst h22
      replace h := gb2_elim h; obtain ⟨v18, mm19, h20, h⟩ := h
      refine x_callI 28 0 (as := []) (st' := [.inr (.inr (some b21))]) (k_ShipSet_init h20) cf_S_99 ⟨rfl, by decide +kernel, by decide, by decide, Nat.le_of_ble_eq_true rfl⟩ rfl d_S_set_28 ?_
      refine x_astoren 31 (lv' := [(3, .inr (.inr (some b21))), (2, .inr (.inr v1)), (0, .inr (.inr (some b))), (1, .inl a0)]) d_S_set_31 rfl (by decide) rfl ?_
      refine x_aloadn 32 0 d_S_set_32 rfl rfl ?_
      replace h := gb1_elim h; obtain ⟨v23, h24, h⟩ := h
      refine x_getR 33 h24 fl_S_100 d_S_set_33 ?_
      replace h := gb1_elim h; obtain ⟨v25, h26, h⟩ := h
      refine x_getR 36 h26 fl_S_104 d_S_set_36 ?_
      refine x_iloadn 39 3 d_S_set_39 rfl rfl ?_
      refine x_aloadn 40 1 d_S_set_40 rfl rfl ?_
      replace h := gb1_elim h; obtain ⟨v27, h28, h⟩ := h
      refine x_getR 41 h28 fl_S_87 d_S_set_41 ?_
      replace h := gb1_elim h; obtain ⟨b32, h33, h⟩ := h
      replace h := gb2_elim h; obtain ⟨v29, mm30, h31, h⟩ := h
      refine x_callV 44 0 (as := []) (st' := [.inl a0, .inr (.inr v25)]) (rs := [.inl v29]) (k_AL_size h31) rfl cf_S_45 ⟨rfl, by decide +kernel, by decide, by decide, Nat.le_of_ble_eq_true rfl⟩ h33 rfl d_S_set_44 ?_
      replace h := gb1_elim h; obtain ⟨mm34, h35, h⟩ := h
      refine x_iast 47 (by decide) rfl h35 d_S_set_47 ?_
      refine x_aloadn 48 2 d_S_set_48 rfl rfl ?_
      replace h := gb1_elim h; obtain ⟨v36, h37, h⟩ := h
      refine x_getR 49 h37 fl_S_18 d_S_set_49 ?_
      refine x_aloadn 52 0 d_S_set_52 rfl rfl ?_
      replace h := gb1_elim h; obtain ⟨b41, h42, h⟩ := h
      replace h := gb2_elim h; obtain ⟨v38, mm39, h40, h⟩ := h
      refine x_callV 53 1 (as := [.inr (.inr (some b21))]) (st' := []) (rs := [.inl v38]) (k_AL_add h40) rfl cf_S_52 ⟨rfl, by decide +kernel, by decide, by decide, Nat.le_of_ble_eq_true rfl⟩ h42 rfl d_S_set_53 ?_
      refine x_pop 56 d_S_set_56 rfl ?_
      refine x_aloadn 57 2 d_S_set_57 rfl rfl ?_
      replace h := gb1_elim h; obtain ⟨v43, h44, h⟩ := h
      refine x_getR 58 h44 fl_S_18 d_S_set_58 ?_
      replace h := gb1_elim h; obtain ⟨b48, h49, h⟩ := h
      replace h := gb2_elim h; obtain ⟨v45, mm46, h47, h⟩ := h
      refine x_callV 61 0 (as := []) (st' := []) (rs := [.inl v45]) (k_AL_size h47) rfl cf_S_45 ⟨rfl, by decide +kernel, by decide, by decide, Nat.le_of_ble_eq_true rfl⟩ h49 rfl d_S_set_61 ?_
      refine x_iconst 64 d_S_set_64 (v := (1 : Int32)) (by decide +kernel) ?_
      refine x_isub 65 d_S_set_65 ?_
      cases h
      exact x_ireturn 66 rfl d_S_set_66
    · replace h := gif_f h c14
      refine x_iconst 22 d_S_set_22 (v := (-1 : Int32)) (by decide +kernel) ?_
      cases h
      exact x_ireturn 23 rfl d_S_set_23
theorem k_S_set {b : Nat} {a0 : Int32} {r : Int32} {mm res : gM} (h : F_S_set b a0 mm = some (r, res)) : ∀ (l : Launch) (E : gD), gLe mm res ∧ gMet l E Y_S_set y_S_set [.inr (.inr (some b)), .inl a0] (some (.int r)) mm res :=
  fun l E => ⟨(w_S_set (l := l) (E := E) (n0 := 0) (s0 := 0) h).1, x_met (by decide +kernel) rfl rfl rfl (Nat.le_of_ble_eq_true rfl) (w_S_set h)⟩
