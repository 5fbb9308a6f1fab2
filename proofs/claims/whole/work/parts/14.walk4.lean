-- S_tell M_isTeller M_isIn M_told
theorem d_S_tell_0 : decode b_S_tell 0 = .ok (.aload_n 0, 1) := by decide +kernel
theorem d_S_tell_1 : decode b_S_tell 1 = .ok (.iload_n 1, 1) := by decide +kernel
theorem d_S_tell_2 : decode b_S_tell 2 = .ok (.invokevirtual 56, 3) := by decide +kernel
theorem d_S_tell_5 : decode b_S_tell 5 = .ok (.astore 8, 2) := by decide +kernel
theorem d_S_tell_7 : decode b_S_tell 7 = .ok (.iload_n 3, 1) := by decide +kernel
theorem d_S_tell_8 : decode b_S_tell 8 = .ok (.iload 4, 2) := by decide +kernel
theorem d_S_tell_10 : decode b_S_tell 10 = .ok (.invokestatic 60, 3) := by decide +kernel
theorem d_S_tell_13 : decode b_S_tell 13 = .ok (.istore 9, 2) := by decide +kernel
theorem d_S_tell_15 : decode b_S_tell 15 = .ok (.aload 8, 2) := by decide +kernel
theorem d_S_tell_17 : decode b_S_tell 17 = .ok (.ifnull 32, 3) := by decide +kernel
theorem d_S_tell_20 : decode b_S_tell 20 = .ok (.iload 9, 2) := by decide +kernel
theorem d_S_tell_22 : decode b_S_tell 22 = .ok (.iconst (-1), 1) := by decide +kernel
theorem d_S_tell_23 : decode b_S_tell 23 = .ok (.if_icmp .eq 26, 3) := by decide +kernel
theorem d_S_tell_26 : decode b_S_tell 26 = .ok (.iload_n 2, 1) := by decide +kernel
theorem d_S_tell_27 : decode b_S_tell 27 = .ok (.invokestatic 64, 3) := by decide +kernel
theorem d_S_tell_30 : decode b_S_tell 30 = .ok (.ifCond .eq 19, 3) := by decide +kernel
theorem d_S_tell_33 : decode b_S_tell 33 = .ok (.lload 5, 2) := by decide +kernel
theorem d_S_tell_35 : decode b_S_tell 35 = .ok (.invokestatic 68, 3) := by decide +kernel
theorem d_S_tell_38 : decode b_S_tell 38 = .ok (.ifCond .eq 11, 3) := by decide +kernel
theorem d_S_tell_41 : decode b_S_tell 41 = .ok (.iload 7, 2) := by decide +kernel
theorem d_S_tell_43 : decode b_S_tell 43 = .ok (.invokestatic 72, 3) := by decide +kernel
theorem d_S_tell_46 : decode b_S_tell 46 = .ok (.ifCond .ne 5, 3) := by decide +kernel
theorem d_S_tell_49 : decode b_S_tell 49 = .ok (.iconst (-1), 1) := by decide +kernel
theorem d_S_tell_50 : decode b_S_tell 50 = .ok (.ireturn, 1) := by decide +kernel
theorem d_S_tell_51 : decode b_S_tell 51 = .ok (.aload 8, 2) := by decide +kernel
theorem d_S_tell_53 : decode b_S_tell 53 = .ok (.iload_n 2, 1) := by decide +kernel
theorem d_S_tell_54 : decode b_S_tell 54 = .ok (.invokevirtual 75, 3) := by decide +kernel
theorem d_S_tell_57 : decode b_S_tell 57 = .ok (.astore 10, 2) := by decide +kernel
theorem d_S_tell_59 : decode b_S_tell 59 = .ok (.aload 10, 2) := by decide +kernel
theorem d_S_tell_61 : decode b_S_tell 61 = .ok (.ifnull 23, 3) := by decide +kernel
theorem d_S_tell_64 : decode b_S_tell 64 = .ok (.aload 10, 2) := by decide +kernel
theorem d_S_tell_66 : decode b_S_tell 66 = .ok (.iload 9, 2) := by decide +kernel
theorem d_S_tell_68 : decode b_S_tell 68 = .ok (.lload 5, 2) := by decide +kernel
theorem d_S_tell_70 : decode b_S_tell 70 = .ok (.iload 7, 2) := by decide +kernel
theorem d_S_tell_72 : decode b_S_tell 72 = .ok (.invokevirtual 79, 3) := by decide +kernel
theorem d_S_tell_75 : decode b_S_tell 75 = .ok (.ifCond .eq 7, 3) := by decide +kernel
theorem d_S_tell_78 : decode b_S_tell 78 = .ok (.iconst 0, 1) := by decide +kernel
theorem d_S_tell_79 : decode b_S_tell 79 = .ok (.goto 4, 3) := by decide +kernel
theorem d_S_tell_82 : decode b_S_tell 82 = .ok (.iconst (-1), 1) := by decide +kernel
theorem d_S_tell_83 : decode b_S_tell 83 = .ok (.ireturn, 1) := by decide +kernel
theorem d_S_tell_84 : decode b_S_tell 84 = .ok (.aload 8, 2) := by decide +kernel
theorem d_S_tell_86 : decode b_S_tell 86 = .ok (.getfield 83, 3) := by decide +kernel
theorem d_S_tell_89 : decode b_S_tell 89 = .ok (.ifCond .ne 13, 3) := by decide +kernel
theorem d_S_tell_92 : decode b_S_tell 92 = .ok (.aload_n 0, 1) := by decide +kernel
theorem d_S_tell_93 : decode b_S_tell 93 = .ok (.getfield 41, 3) := by decide +kernel
theorem d_S_tell_96 : decode b_S_tell 96 = .ok (.sipush 200, 3) := by decide +kernel
theorem d_S_tell_99 : decode b_S_tell 99 = .ok (.if_icmp .lt 5, 3) := by decide +kernel
theorem d_S_tell_102 : decode b_S_tell 102 = .ok (.iconst (-1), 1) := by decide +kernel
theorem d_S_tell_103 : decode b_S_tell 103 = .ok (.ireturn, 1) := by decide +kernel
theorem d_S_tell_104 : decode b_S_tell 104 = .ok (.new 24, 3) := by decide +kernel
theorem d_S_tell_107 : decode b_S_tell 107 = .ok (.dup, 1) := by decide +kernel
theorem d_S_tell_108 : decode b_S_tell 108 = .ok (.iload_n 1, 1) := by decide +kernel
theorem d_S_tell_109 : decode b_S_tell 109 = .ok (.aload 8, 2) := by decide +kernel
theorem d_S_tell_111 : decode b_S_tell 111 = .ok (.getfield 87, 3) := by decide +kernel
theorem d_S_tell_114 : decode b_S_tell 114 = .ok (.invokevirtual 45, 3) := by decide +kernel
theorem d_S_tell_117 : decode b_S_tell 117 = .ok (.iload_n 2, 1) := by decide +kernel
theorem d_S_tell_118 : decode b_S_tell 118 = .ok (.iload 9, 2) := by decide +kernel
theorem d_S_tell_120 : decode b_S_tell 120 = .ok (.lload 5, 2) := by decide +kernel
theorem d_S_tell_122 : decode b_S_tell 122 = .ok (.iload 7, 2) := by decide +kernel
theorem d_S_tell_124 : decode b_S_tell 124 = .ok (.aload_n 0, 1) := by decide +kernel
theorem d_S_tell_125 : decode b_S_tell 125 = .ok (.getfield 26, 3) := by decide +kernel
theorem d_S_tell_128 : decode b_S_tell 128 = .ok (.iload 9, 2) := by decide +kernel
theorem d_S_tell_130 : decode b_S_tell 130 = .ok (.aaload, 1) := by decide +kernel
theorem d_S_tell_131 : decode b_S_tell 131 = .ok (.invokespecial 90, 3) := by decide +kernel
theorem d_S_tell_134 : decode b_S_tell 134 = .ok (.astore 11, 2) := by decide +kernel
theorem d_S_tell_136 : decode b_S_tell 136 = .ok (.aload 8, 2) := by decide +kernel
theorem d_S_tell_138 : decode b_S_tell 138 = .ok (.aload 11, 2) := by decide +kernel
theorem d_S_tell_140 : decode b_S_tell 140 = .ok (.invokevirtual 93, 3) := by decide +kernel
theorem d_S_tell_143 : decode b_S_tell 143 = .ok (.aload_n 0, 1) := by decide +kernel
theorem d_S_tell_144 : decode b_S_tell 144 = .ok (.getfield 26, 3) := by decide +kernel
theorem d_S_tell_147 : decode b_S_tell 147 = .ok (.iload 9, 2) := by decide +kernel
theorem d_S_tell_149 : decode b_S_tell 149 = .ok (.aload 11, 2) := by decide +kernel
theorem d_S_tell_151 : decode b_S_tell 151 = .ok (.aastore, 1) := by decide +kernel
theorem d_S_tell_152 : decode b_S_tell 152 = .ok (.aload_n 0, 1) := by decide +kernel
theorem d_S_tell_153 : decode b_S_tell 153 = .ok (.dup, 1) := by decide +kernel
theorem d_S_tell_154 : decode b_S_tell 154 = .ok (.getfield 41, 3) := by decide +kernel
theorem d_S_tell_157 : decode b_S_tell 157 = .ok (.iconst 1, 1) := by decide +kernel
theorem d_S_tell_158 : decode b_S_tell 158 = .ok (.iadd, 1) := by decide +kernel
theorem d_S_tell_159 : decode b_S_tell 159 = .ok (.putfield 41, 3) := by decide +kernel
theorem d_S_tell_162 : decode b_S_tell 162 = .ok (.iconst 1, 1) := by decide +kernel
theorem d_S_tell_163 : decode b_S_tell 163 = .ok (.ireturn, 1) := by decide +kernel
def F_S_tell (b : Nat) (a0 : Int32) (a1 : Int32) (a2 : Int32) (a3 : Int32) (a4 : Int64) (a5 : Int32) (mm : gM) : Option (Int32 × gM) :=
  gb1 (grc 0 (some b) mm) fun b4 =>
  gb2 (F_S_tellerAt b4 a0 mm) fun v1 mm2 =>
  gb2 (F_S_cellOf a2 a3 mm2) fun v6 mm7 =>
  if v1 = none then (
    some ((-1 : Int32), mm7))
  else (
    if v6 = (-1 : Int32) then (
      some ((-1 : Int32), mm7))
    else (
      gb2 (F_S_isNumber a1 mm7) fun v11 mm12 =>
      if v11 = 0 then (
        some ((-1 : Int32), mm12))
      else (
        gb2 (F_S_isValue a4 mm12) fun v15 mm16 =>
        if v15 = 0 then (
          some ((-1 : Int32), mm16))
        else (
          gb2 (F_S_isDay a5 mm16) fun v19 mm20 =>
          if v19 = 0 then (
            some ((-1 : Int32), mm20))
          else (
            gb1 (grc 1 v1 mm20) fun b26 =>
            gb2 (F_Teller_toldWith b26 a1 mm20) fun v23 mm24 =>
            if v23 = none then (
              gb1 (gfI 1 3 v1 mm24) fun v29 =>
              if v29 = 0 then (
                gb1 (gfI 0 6 (some b) mm24) fun v32 =>
                if v32 < (200 : Int32) then (
                  gb2 (gnO 7 [.int 0, .int 0, .int 0, .int 0, .long 0, .int 0, .null] 7 mm24) fun v35 mm37 =>
                  gb1 (gfR 1 0 v1 mm37) fun v38 =>
                  gb1 (grc 9 v38 mm37) fun b43 =>
                  gb2 (F_AL_size b43  mm37) fun v40 mm41 =>
                  gb1 (gfR 0 3 (some b) mm41) fun v45 =>
                  gb1 (gaR 3 v45 v6 mm41) fun v47 =>
                  gb1 v35 fun b52 =>
                  gb2 (F_Telling_init b52 a0 v40 a1 v6 a4 a5 v47 mm41) fun v49 mm50 =>
                  gb1 (grc 1 v1 mm50) fun b57 =>
                  gb2 (F_Teller_keep b57 (some b52) mm50) fun v54 mm55 =>
                  gb1 (gfR 0 3 (some b) mm55) fun v59 =>
                  gb1 (gsR 3 [7] v59 v6 (some b52) mm55) fun mm61 =>
                  gb1 (gfI 0 6 (some b) mm61) fun v63 =>
                  gb1 (gpV 0 6 (some b) (.int (v63 + (1 : Int32))) mm61) fun mm65 =>
                  some ((1 : Int32), mm65))
                else (
                  some ((-1 : Int32), mm24)))
              else (
                some ((-1 : Int32), mm24)))
            else (
              gb1 (grc 7 v23 mm24) fun b70 =>
              gb2 (F_Telling_says b70 v6 a4 a5 mm24) fun v67 mm68 =>
              if v67 = 0 then (
                some ((-1 : Int32), mm68))
              else (
                some ((0 : Int32), mm68))))))))
set_option maxHeartbeats 8000000 in
set_option maxRecDepth 100000 in
theorem w_S_tell {l : Launch} {E : gD} {n0 s0 : Nat} {b : Nat} {a0 : Int32} {a1 : Int32} {a2 : Int32} {a3 : Int32} {a4 : Int64} {a5 : Int32} {r : Int32} {mm res : gM} (h : F_S_tell b a0 a1 a2 a3 a4 a5 mm = some (r, res)) : xX l E Y_S_tell n0 s0 (some (.int r)) res 0 [(0, .inr (.inr (some b))), (1, .inl a0), (2, .inl a1), (3, .inl a2), (4, .inl a3), (5, .inr (.inl a4)), (7, .inl a5)] [] mm := by
  unfold F_S_tell at h
  refine x_aloadn 0 0 d_S_tell_0 rfl rfl ?_
  refine x_iloadn 1 1 d_S_tell_1 rfl rfl ?_
  replace h := gb1_elim h; obtain ⟨b4, h5, h⟩ := h
  replace h := gb2_elim h; obtain ⟨v1, mm2, h3, h⟩ := h
  refine x_callV 2 1 (as := [.inl a0]) (st' := []) (rs := [.inr (.inr v1)]) (k_S_tellerAt h3) rfl cf_S_56 ⟨rfl, by decide +kernel, by decide, by decide, Nat.le_of_ble_eq_true rfl⟩ h5 rfl d_S_tell_2 ?_
  refine x_astore 5 (lv' := [(8, .inr (.inr v1)), (0, .inr (.inr (some b))), (1, .inl a0), (2, .inl a1), (3, .inl a2), (4, .inl a3), (5, .inr (.inl a4)), (7, .inl a5)]) d_S_tell_5 (by decide) rfl ?_
  refine x_iloadn 7 4 d_S_tell_7 rfl rfl ?_
  refine x_iload 8 5 d_S_tell_8 rfl ?_
  replace h := gb2_elim h; obtain ⟨v6, mm7, h8, h⟩ := h
  refine x_callS 10 2 (as := [.inl a2, .inl a3]) (st' := []) (rs := [.inl v6]) (k_S_cellOf h8) rfl cf_S_60 ⟨rfl, by decide +kernel, by decide, by decide, Nat.le_of_ble_eq_true rfl⟩ rfl d_S_tell_10 ?_
  refine x_istore 13 (lv' := [(9, .inl v6), (8, .inr (.inr v1)), (0, .inr (.inr (some b))), (1, .inl a0), (2, .inl a1), (3, .inl a2), (4, .inl a3), (5, .inr (.inl a4)), (7, .inl a5)]) d_S_tell_13 (by decide) rfl ?_
  refine x_aload 15 1 d_S_tell_15 rfl ?_
  refine x_ifnull 17 49 d_S_tell_17 (by decide) (fun c9 => ?_) (fun c9 => ?_)
  · replace h := gif_t h c9
    refine x_iconst 49 d_S_tell_49 (v := (-1 : Int32)) (by decide +kernel) ?_
    cases h
    exact x_ireturn 50 rfl d_S_tell_50
  · replace h := gif_f h c9
    refine x_iload 20 0 d_S_tell_20 rfl ?_
    refine x_iconst 22 d_S_tell_22 (v := (-1 : Int32)) (by decide +kernel) ?_
    refine x_icmp_eq 23 49 d_S_tell_23 (by decide) (fun c10 => ?_) (fun c10 => ?_)
    · replace h := gif_t h c10
      refine x_iconst 49 d_S_tell_49 (v := (-1 : Int32)) (by decide +kernel) ?_
      cases h
      exact x_ireturn 50 rfl d_S_tell_50
    · replace h := gif_f h c10
      refine x_iloadn 26 4 d_S_tell_26 rfl rfl ?_
      replace h := gb2_elim h; obtain ⟨v11, mm12, h13, h⟩ := h
      refine x_callS 27 1 (as := [.inl a1]) (st' := []) (rs := [.inl v11]) (k_S_isNumber h13) rfl cf_S_64 ⟨rfl, by decide +kernel, by decide, by decide, Nat.le_of_ble_eq_true rfl⟩ rfl d_S_tell_27 ?_
      refine x_if_eq 30 49 d_S_tell_30 (by decide) (fun c14 => ?_) (fun c14 => ?_)
      · replace h := gif_t h c14
        refine x_iconst 49 d_S_tell_49 (v := (-1 : Int32)) (by decide +kernel) ?_
        cases h
        exact x_ireturn 50 rfl d_S_tell_50
      · replace h := gif_f h c14
        refine x_lload 33 7 d_S_tell_33 rfl ?_
        replace h := gb2_elim h; obtain ⟨v15, mm16, h17, h⟩ := h
        refine x_callS 35 1 (as := [.inr (.inl a4)]) (st' := []) (rs := [.inl v15]) (k_S_isValue h17) rfl cf_S_68 ⟨rfl, by decide +kernel, by decide, by decide, Nat.le_of_ble_eq_true rfl⟩ rfl d_S_tell_35 ?_
        refine x_if_eq 38 49 d_S_tell_38 (by decide) (fun c18 => ?_) (fun c18 => ?_)
        · replace h := gif_t h c18
          refine x_iconst 49 d_S_tell_49 (v := (-1 : Int32)) (by decide +kernel) ?_
          cases h
          exact x_ireturn 50 rfl d_S_tell_50
        · replace h := gif_f h c18
          refine x_iload 41 8 d_S_tell_41 rfl ?_
          replace h := gb2_elim h; obtain ⟨v19, mm20, h21, h⟩ := h
          refine x_callS 43 1 (as := [.inl a5]) (st' := []) (rs := [.inl v19]) (k_S_isDay h21) rfl cf_S_72 ⟨rfl, by decide +kernel, by decide, by decide, Nat.le_of_ble_eq_true rfl⟩ rfl d_S_tell_43 ?_
          refine x_if_ne 46 51 d_S_tell_46 (by decide) (fun c22 => ?_) (fun c22 => ?_)
          · replace h := gif_t h c22
            refine x_iconst 49 d_S_tell_49 (v := (-1 : Int32)) (by decide +kernel) ?_
            cases h
            exact x_ireturn 50 rfl d_S_tell_50
          · replace h := gif_f h c22
            refine x_aload 51 1 d_S_tell_51 rfl ?_
            refine x_iloadn 53 4 d_S_tell_53 rfl rfl ?_
            replace h := gb1_elim h; obtain ⟨b26, h27, h⟩ := h
            replace h := gb2_elim h; obtain ⟨v23, mm24, h25, h⟩ := h
            refine x_callV 54 1 (as := [.inl a1]) (st' := []) (rs := [.inr (.inr v23)]) (k_Teller_toldWith h25) rfl cf_S_75 ⟨rfl, by decide +kernel, by decide, by decide, Nat.le_of_ble_eq_true rfl⟩ h27 rfl d_S_tell_54 ?_
            refine x_astore 57 (lv' := [(10, .inr (.inr v23)), (9, .inl v6), (8, .inr (.inr v1)), (0, .inr (.inr (some b))), (1, .inl a0), (2, .inl a1), (3, .inl a2), (4, .inl a3), (5, .inr (.inl a4)), (7, .inl a5)]) d_S_tell_57 (by decide) rfl ?_
            refine x_aload 59 0 d_S_tell_59 rfl ?_
            refine x_ifnull 61 84 d_S_tell_61 (by decide) (fun c28 => ?_) (fun c28 => ?_)
            · replace h := gif_t h c28
              refine x_aload 84 2 d_S_tell_84 rfl ?_
              replace h := gb1_elim h; obtain ⟨v29, h30, h⟩ := h
              refine x_getI 86 h30 fl_S_83 d_S_tell_86 ?_
              refine x_if_ne 89 102 d_S_tell_89 (by decide) (fun c31 => ?_) (fun c31 => ?_)
              · replace h := gif_t h c31
                refine x_aloadn 92 3 d_S_tell_92 rfl rfl ?_
                replace h := gb1_elim h; obtain ⟨v32, h33, h⟩ := h
                refine x_getI 93 h33 fl_S_41 d_S_tell_93 ?_
                refine x_sipush 96 d_S_tell_96 (v := (200 : Int32)) (by decide +kernel) ?_
                refine x_icmp_lt 99 104 d_S_tell_99 (by decide) (fun c34 => ?_) (fun c34 => ?_)
                · replace h := gif_t h c34
                  replace h := gb2_elim h; obtain ⟨v35, mm37, h36, h⟩ := h
                  refine x_new 104 nw_S_24 h36 d_S_tell_104 ?_
                  refine x_dup 107 d_S_tell_107 rfl ?_
                  refine x_iloadn 108 4 d_S_tell_108 rfl rfl ?_
                  refine x_aload 109 2 d_S_tell_109 rfl ?_
                  replace h := gb1_elim h; obtain ⟨v38, h39, h⟩ := h
                  refine x_getR 111 h39 fl_S_87 d_S_tell_111 ?_
                  replace h := gb1_elim h; obtain ⟨b43, h44, h⟩ := h
                  replace h := gb2_elim h; obtain ⟨v40, mm41, h42, h⟩ := h
                  refine x_callV 114 0 (as := []) (st' := [.inl a0, .inr (.inr v35), .inr (.inr v35)]) (rs := [.inl v40]) (k_AL_size h42) rfl cf_S_45 ⟨rfl, by decide +kernel, by decide, by decide, Nat.le_of_ble_eq_true rfl⟩ h44 rfl d_S_tell_114 ?_
                  refine x_iloadn 117 5 d_S_tell_117 rfl rfl ?_
                  refine x_iload 118 1 d_S_tell_118 rfl ?_
                  refine x_lload 120 8 d_S_tell_120 rfl ?_
                  refine x_iload 122 9 d_S_tell_122 rfl ?_
                  refine x_aloadn 124 3 d_S_tell_124 rfl rfl ?_
                  replace h := gb1_elim h; obtain ⟨v45, h46, h⟩ := h
                  refine x_getR 125 h46 fl_S_26 d_S_tell_125 ?_
                  refine x_iload 128 1 d_S_tell_128 rfl ?_
                  replace h := gb1_elim h; obtain ⟨v47, h48, h⟩ := h
                  refine x_aald 130 rfl h48 d_S_tell_130 ?_
                  replace h := gb1_elim h; obtain ⟨b52, h53, h⟩ := h
                  subst h53
                  replace h := gb2_elim h; obtain ⟨v49, mm50, h51, h⟩ := h
                  refine x_callI 131 7 (as := [.inl a0, .inl v40, .inl a1, .inl v6, .inr (.inl a4), .inl a5, .inr (.inr v47)]) (st' := [.inr (.inr (some b52))]) (k_Telling_init h51) cf_S_90 ⟨rfl, by decide +kernel, by decide, by decide, Nat.le_of_ble_eq_true rfl⟩ rfl d_S_tell_131 ?_
                  refine x_astore 134 (lv' := [(11, .inr (.inr (some b52))), (10, .inr (.inr v23)), (9, .inl v6), (8, .inr (.inr v1)), (0, .inr (.inr (some b))), (1, .inl a0), (2, .inl a1), (3, .inl a2), (4, .inl a3), (5, .inr (.inl a4)), (7, .inl a5)]) d_S_tell_134 (by decide) rfl ?_
                  refine x_aload 136 3 d_S_tell_136 rfl ?_
                  refine x_aload 138 0 d_S_tell_138 rfl ?_
                  replace h := gb1_elim h; obtain ⟨b57, h58, h⟩ := h
                  replace h := gb2_elim h; obtain ⟨v54, mm55, h56, h⟩ := h
                  refine x_callV 140 1 (as := [.inr (.inr (some b52))]) (st' := []) (rs := []) (k_Teller_keep h56) rfl cf_S_93 ⟨rfl, by decide +kernel, by decide, by decide, Nat.le_of_ble_eq_true rfl⟩ h58 rfl d_S_tell_140 ?_
                  refine x_aloadn 143 4 d_S_tell_143 rfl rfl ?_
                  replace h := gb1_elim h; obtain ⟨v59, h60, h⟩ := h
                  refine x_getR 144 h60 fl_S_26 d_S_tell_144 ?_
                  refine x_iload 147 2 d_S_tell_147 rfl ?_
                  refine x_aload 149 0 d_S_tell_149 rfl ?_
                  replace h := gb1_elim h; obtain ⟨mm61, h62, h⟩ := h
                  refine x_aast 151 (by decide) rfl gInto_T h62 d_S_tell_151 ?_
                  refine x_aloadn 152 4 d_S_tell_152 rfl rfl ?_
                  refine x_dup 153 d_S_tell_153 rfl ?_
                  replace h := gb1_elim h; obtain ⟨v63, h64, h⟩ := h
                  refine x_getI 154 h64 fl_S_41 d_S_tell_154 ?_
                  refine x_iconst 157 d_S_tell_157 (v := (1 : Int32)) (by decide +kernel) ?_
                  refine x_iadd 158 d_S_tell_158 ?_
                  replace h := gb1_elim h; obtain ⟨mm65, h66, h⟩ := h
                  refine x_putV 159 fp_S_41 rfl rfl h66 d_S_tell_159 ?_
                  refine x_iconst 162 d_S_tell_162 (v := (1 : Int32)) (by decide +kernel) ?_
                  cases h
                  exact x_ireturn 163 rfl d_S_tell_163
                · replace h := gif_f h c34
                  refine x_iconst 102 d_S_tell_102 (v := (-1 : Int32)) (by decide +kernel) ?_
                  cases h
                  exact x_ireturn 103 rfl d_S_tell_103
              · replace h := gif_f h c31
                refine x_iconst 102 d_S_tell_102 (v := (-1 : Int32)) (by decide +kernel) ?_
                cases h
                exact x_ireturn 103 rfl d_S_tell_103
            · replace h := gif_f h c28
              refine x_aload 64 0 d_S_tell_64 rfl ?_
              refine x_iload 66 1 d_S_tell_66 rfl ?_
              refine x_lload 68 8 d_S_tell_68 rfl ?_
              refine x_iload 70 9 d_S_tell_70 rfl ?_
              replace h := gb1_elim h; obtain ⟨b70, h71, h⟩ := h
              replace h := gb2_elim h; obtain ⟨v67, mm68, h69, h⟩ := h
              refine x_callV 72 3 (as := [.inl v6, .inr (.inl a4), .inl a5]) (st' := []) (rs := [.inl v67]) (k_Telling_says h69) rfl cf_S_79 ⟨rfl, by decide +kernel, by decide, by decide, Nat.le_of_ble_eq_true rfl⟩ h71 rfl d_S_tell_72 ?_
              refine x_if_eq 75 82 d_S_tell_75 (by decide) (fun c72 => ?_) (fun c72 => ?_)
              · replace h := gif_t h c72
                refine x_iconst 82 d_S_tell_82 (v := (-1 : Int32)) (by decide +kernel) ?_
                cases h
                exact x_ireturn 83 rfl d_S_tell_83
              · replace h := gif_f h c72
                refine x_iconst 78 d_S_tell_78 (v := (0 : Int32)) (by decide +kernel) ?_
                refine x_goto 79 83 d_S_tell_79 (by decide) ?_
                cases h
                exact x_ireturn 83 rfl d_S_tell_83
theorem k_S_tell {b : Nat} {a0 : Int32} {a1 : Int32} {a2 : Int32} {a3 : Int32} {a4 : Int64} {a5 : Int32} {r : Int32} {mm res : gM} (h : F_S_tell b a0 a1 a2 a3 a4 a5 mm = some (r, res)) : ∀ (l : Launch) (E : gD), gLe mm res ∧ gMet l E Y_S_tell y_S_tell [.inr (.inr (some b)), .inl a0, .inl a1, .inl a2, .inl a3, .inr (.inl a4), .inl a5] (some (.int r)) mm res :=
  fun l E => ⟨(w_S_tell (l := l) (E := E) (n0 := 0) (s0 := 0) h).1, x_met (by decide +kernel) rfl rfl rfl (Nat.le_of_ble_eq_true rfl) (w_S_tell h)⟩
theorem d_M_isTeller_0 : decode b_M_isTeller 0 = .ok (.iload_n 1, 1) := by decide +kernel
theorem d_M_isTeller_1 : decode b_M_isTeller 1 = .ok (.ifCond .lt 15, 3) := by decide +kernel
theorem d_M_isTeller_4 : decode b_M_isTeller 4 = .ok (.iload_n 1, 1) := by decide +kernel
theorem d_M_isTeller_5 : decode b_M_isTeller 5 = .ok (.aload_n 0, 1) := by decide +kernel
theorem d_M_isTeller_6 : decode b_M_isTeller 6 = .ok (.getfield 82, 3) := by decide +kernel
theorem d_M_isTeller_9 : decode b_M_isTeller 9 = .ok (.if_icmp .ge 7, 3) := by decide +kernel
theorem d_M_isTeller_12 : decode b_M_isTeller 12 = .ok (.iconst 1, 1) := by decide +kernel
theorem d_M_isTeller_13 : decode b_M_isTeller 13 = .ok (.goto 4, 3) := by decide +kernel
theorem d_M_isTeller_16 : decode b_M_isTeller 16 = .ok (.iconst 0, 1) := by decide +kernel
theorem d_M_isTeller_17 : decode b_M_isTeller 17 = .ok (.ireturn, 1) := by decide +kernel
def F_M_isTeller (b : Nat) (a0 : Int32) (mm : gM) : Option (Int32 × gM) :=
  if a0 < 0 then (
    some ((0 : Int32), mm))
  else (
    gb1 (gfI 10 0 (some b) mm) fun v2 =>
    if v2 ≤ a0 then (
      some ((0 : Int32), mm))
    else (
      some ((1 : Int32), mm)))
set_option maxHeartbeats 8000000 in
set_option maxRecDepth 100000 in
theorem w_M_isTeller {l : Launch} {E : gD} {n0 s0 : Nat} {b : Nat} {a0 : Int32} {r : Int32} {mm res : gM} (h : F_M_isTeller b a0 mm = some (r, res)) : xX l E Y_M_isTeller n0 s0 (some (.int r)) res 0 [(0, .inr (.inr (some b))), (1, .inl a0)] [] mm := by
  unfold F_M_isTeller at h
  refine x_iloadn 0 1 d_M_isTeller_0 rfl rfl ?_
  refine x_if_lt 1 16 d_M_isTeller_1 (by decide) (fun c1 => ?_) (fun c1 => ?_)
  · replace h := gif_t h c1
    refine x_iconst 16 d_M_isTeller_16 (v := (0 : Int32)) (by decide +kernel) ?_
    cases h
    exact x_zreturn 17 (by decide) rfl d_M_isTeller_17
  · replace h := gif_f h c1
    refine x_iloadn 4 1 d_M_isTeller_4 rfl rfl ?_
    refine x_aloadn 5 0 d_M_isTeller_5 rfl rfl ?_
    replace h := gb1_elim h; obtain ⟨v2, h3, h⟩ := h
    refine x_getI 6 h3 fl_M_82 d_M_isTeller_6 ?_
    refine x_icmp_ge 9 16 d_M_isTeller_9 (by decide) (fun c4 => ?_) (fun c4 => ?_)
    · replace h := gif_t h c4
      refine x_iconst 16 d_M_isTeller_16 (v := (0 : Int32)) (by decide +kernel) ?_
      cases h
      exact x_zreturn 17 (by decide) rfl d_M_isTeller_17
    · replace h := gif_f h c4
      refine x_iconst 12 d_M_isTeller_12 (v := (1 : Int32)) (by decide +kernel) ?_
      refine x_goto 13 17 d_M_isTeller_13 (by decide) ?_
      cases h
      exact x_zreturn 17 (by decide) rfl d_M_isTeller_17
theorem k_M_isTeller {b : Nat} {a0 : Int32} {r : Int32} {mm res : gM} (h : F_M_isTeller b a0 mm = some (r, res)) : ∀ (l : Launch) (E : gD), gLe mm res ∧ gMet l E Y_M_isTeller y_M_isTeller [.inr (.inr (some b)), .inl a0] (some (.int r)) mm res :=
  fun l E => ⟨(w_M_isTeller (l := l) (E := E) (n0 := 0) (s0 := 0) h).1, x_met (by decide +kernel) rfl rfl rfl (Nat.le_of_ble_eq_true rfl) (w_M_isTeller h)⟩
theorem d_M_isIn_0 : decode b_M_isIn 0 = .ok (.lload_n 0, 1) := by decide +kernel
theorem d_M_isIn_1 : decode b_M_isIn 1 = .ok (.lload_n 2, 1) := by decide +kernel
theorem d_M_isIn_2 : decode b_M_isIn 2 = .ok (.lcmp, 1) := by decide +kernel
theorem d_M_isIn_3 : decode b_M_isIn 3 = .ok (.ifCond .lt 14, 3) := by decide +kernel
theorem d_M_isIn_6 : decode b_M_isIn 6 = .ok (.lload_n 0, 1) := by decide +kernel
theorem d_M_isIn_7 : decode b_M_isIn 7 = .ok (.lload 4, 2) := by decide +kernel
theorem d_M_isIn_9 : decode b_M_isIn 9 = .ok (.lcmp, 1) := by decide +kernel
theorem d_M_isIn_10 : decode b_M_isIn 10 = .ok (.ifCond .gt 7, 3) := by decide +kernel
theorem d_M_isIn_13 : decode b_M_isIn 13 = .ok (.iconst 1, 1) := by decide +kernel
theorem d_M_isIn_14 : decode b_M_isIn 14 = .ok (.goto 4, 3) := by decide +kernel
theorem d_M_isIn_17 : decode b_M_isIn 17 = .ok (.iconst 0, 1) := by decide +kernel
theorem d_M_isIn_18 : decode b_M_isIn 18 = .ok (.ireturn, 1) := by decide +kernel
def F_M_isIn (a0 : Int64) (a1 : Int64) (a2 : Int64) (mm : gM) : Option (Int32 × gM) :=
  if a0 < a1 then (
    some ((0 : Int32), mm))
  else (
    if a2 < a0 then (
      some ((0 : Int32), mm))
    else (
      some ((1 : Int32), mm)))
set_option maxHeartbeats 8000000 in
set_option maxRecDepth 100000 in
theorem w_M_isIn {l : Launch} {E : gD} {n0 s0 : Nat} {a0 : Int64} {a1 : Int64} {a2 : Int64} {r : Int32} {mm res : gM} (h : F_M_isIn a0 a1 a2 mm = some (r, res)) : xX l E Y_M_isIn n0 s0 (some (.int r)) res 0 [(0, .inr (.inl a0)), (2, .inr (.inl a1)), (4, .inr (.inl a2))] [] mm := by
  unfold F_M_isIn at h
  refine x_lloadn 0 0 d_M_isIn_0 rfl rfl ?_
  refine x_lloadn 1 1 d_M_isIn_1 rfl rfl ?_
  refine x_lc_lt 2 17 d_M_isIn_2 d_M_isIn_3 (by decide) (fun c1 => ?_) (fun c1 => ?_)
  · replace h := gif_t h c1
    refine x_iconst 17 d_M_isIn_17 (v := (0 : Int32)) (by decide +kernel) ?_
    cases h
    exact x_zreturn 18 (by decide) rfl d_M_isIn_18
  · replace h := gif_f h c1
    refine x_lloadn 6 0 d_M_isIn_6 rfl rfl ?_
    refine x_lload 7 2 d_M_isIn_7 rfl ?_
    refine x_lc_gt 9 17 d_M_isIn_9 d_M_isIn_10 (by decide) (fun c2 => ?_) (fun c2 => ?_)
    · replace h := gif_t h c2
      refine x_iconst 17 d_M_isIn_17 (v := (0 : Int32)) (by decide +kernel) ?_
      cases h
      exact x_zreturn 18 (by decide) rfl d_M_isIn_18
    · replace h := gif_f h c2
      refine x_iconst 13 d_M_isIn_13 (v := (1 : Int32)) (by decide +kernel) ?_
      refine x_goto 14 18 d_M_isIn_14 (by decide) ?_
      cases h
      exact x_zreturn 18 (by decide) rfl d_M_isIn_18
theorem k_M_isIn {a0 : Int64} {a1 : Int64} {a2 : Int64} {r : Int32} {mm res : gM} (h : F_M_isIn a0 a1 a2 mm = some (r, res)) : ∀ (l : Launch) (E : gD), gLe mm res ∧ gMet l E Y_M_isIn y_M_isIn [.inr (.inl a0), .inr (.inl a1), .inr (.inl a2)] (some (.int r)) mm res :=
  fun l E => ⟨(w_M_isIn (l := l) (E := E) (n0 := 0) (s0 := 0) h).1, x_met (by decide +kernel) rfl rfl rfl (Nat.le_of_ble_eq_true rfl) (w_M_isIn h)⟩
theorem d_M_told_0 : decode b_M_told 0 = .ok (.iconst (-1), 1) := by decide +kernel
theorem d_M_told_1 : decode b_M_told 1 = .ok (.istore_n 3, 1) := by decide +kernel
theorem d_M_told_2 : decode b_M_told 2 = .ok (.iconst 0, 1) := by decide +kernel
theorem d_M_told_3 : decode b_M_told 3 = .ok (.istore 4, 2) := by decide +kernel
theorem d_M_told_5 : decode b_M_told 5 = .ok (.iload 4, 2) := by decide +kernel
theorem d_M_told_7 : decode b_M_told 7 = .ok (.aload_n 0, 1) := by decide +kernel
theorem d_M_told_8 : decode b_M_told 8 = .ok (.getfield 89, 3) := by decide +kernel
theorem d_M_told_11 : decode b_M_told 11 = .ok (.if_icmp .ge 38, 3) := by decide +kernel
theorem d_M_told_14 : decode b_M_told 14 = .ok (.aload_n 0, 1) := by decide +kernel
theorem d_M_told_15 : decode b_M_told 15 = .ok (.getfield 13, 3) := by decide +kernel
theorem d_M_told_18 : decode b_M_told 18 = .ok (.iload 4, 2) := by decide +kernel
theorem d_M_told_20 : decode b_M_told 20 = .ok (.iaload, 1) := by decide +kernel
theorem d_M_told_21 : decode b_M_told 21 = .ok (.iload_n 1, 1) := by decide +kernel
theorem d_M_told_22 : decode b_M_told 22 = .ok (.if_icmp .ne 19, 3) := by decide +kernel
theorem d_M_told_25 : decode b_M_told 25 = .ok (.aload_n 0, 1) := by decide +kernel
theorem d_M_told_26 : decode b_M_told 26 = .ok (.getfield 17, 3) := by decide +kernel
theorem d_M_told_29 : decode b_M_told 29 = .ok (.iload 4, 2) := by decide +kernel
theorem d_M_told_31 : decode b_M_told 31 = .ok (.iaload, 1) := by decide +kernel
theorem d_M_told_32 : decode b_M_told 32 = .ok (.iload_n 2, 1) := by decide +kernel
theorem d_M_told_33 : decode b_M_told 33 = .ok (.if_icmp .ne 8, 3) := by decide +kernel
theorem d_M_told_36 : decode b_M_told 36 = .ok (.iload 4, 2) := by decide +kernel
theorem d_M_told_38 : decode b_M_told 38 = .ok (.goto 4, 3) := by decide +kernel
theorem d_M_told_41 : decode b_M_told 41 = .ok (.iload_n 3, 1) := by decide +kernel
theorem d_M_told_42 : decode b_M_told 42 = .ok (.istore_n 3, 1) := by decide +kernel
theorem d_M_told_43 : decode b_M_told 43 = .ok (.iinc 4 1, 3) := by decide +kernel
theorem d_M_told_46 : decode b_M_told 46 = .ok (.goto (-41), 3) := by decide +kernel
theorem d_M_told_49 : decode b_M_told 49 = .ok (.iload_n 3, 1) := by decide +kernel
theorem d_M_told_50 : decode b_M_told 50 = .ok (.ireturn, 1) := by decide +kernel
def L_M_told_5 (k49 : Int32 → gM → Option (Int32 × gM)) : Nat → Option Nat → Int32 → Int32 → Int32 → Int32 → gM → Option (Int32 × gM)
  | 0, _, _, _, _, _, _ => none
  | f + 1, p0, p1, p2, p3, p4, mm =>
    gb1 (gfI 10 2 p0 mm) fun v1 =>
    if v1 ≤ p4 then (
      k49 p3 mm)
    else (
      gb1 (gfR 10 3 p0 mm) fun v4 =>
      gb1 (gaI 0 v4 p4 mm) fun v6 =>
      if v6 = p1 then (
        gb1 (gfR 10 4 p0 mm) fun v9 =>
        gb1 (gaI 0 v9 p4 mm) fun v11 =>
        if v11 = p2 then (
          gLet (p4 + 1) fun x14 =>
          L_M_told_5 k49 f p0 p1 p2 p4 x14 mm)
        else (
          gLet (p4 + 1) fun x15 =>
          L_M_told_5 k49 f p0 p1 p2 p3 x15 mm))
      else (
        gLet (p4 + 1) fun x16 =>
        L_M_told_5 k49 f p0 p1 p2 p3 x16 mm))
set_option maxHeartbeats 4000000 in
set_option maxRecDepth 100000 in
theorem wL_M_told_5 {l : Launch} {E : gD} {n0 s0 : Nat} {r : Int32} {res : gM} {k49 : Int32 → gM → Option (Int32 × gM)} (hk49 : ∀ (p3 : Int32) (mm : gM), k49 p3 mm = some (r, res) → xX l E Y_M_told n0 s0 (some (.int r)) res 49 [(3, .inl p3)] [] mm) : ∀ (f : Nat) (p0 : Option Nat) (p1 : Int32) (p2 : Int32) (p3 : Int32) (p4 : Int32) (mm : gM), L_M_told_5 k49 f p0 p1 p2 p3 p4 mm = some (r, res) → xX l E Y_M_told n0 s0 (some (.int r)) res 5 [(0, .inr (.inr p0)), (1, .inl p1), (2, .inl p2), (3, .inl p3), (4, .inl p4)] [] mm := by
  intro f
  induction f with
  | zero =>
    intro p0 p1 p2 p3 p4 mm h
    rw [L_M_told_5] at h
    cases h
  | succ f ih =>
    intro p0 p1 p2 p3 p4 mm h
    rw [L_M_told_5] at h
    refine x_iload 5 4 d_M_told_5 rfl ?_
    refine x_aloadn 7 0 d_M_told_7 rfl rfl ?_
    replace h := gb1_elim h; obtain ⟨v1, h2, h⟩ := h
    refine x_getI 8 h2 fl_M_89 d_M_told_8 ?_
    refine x_icmp_ge 11 49 d_M_told_11 (by decide) (fun c3 => ?_) (fun c3 => ?_)
    · replace h := gif_t h c3
      refine x_sub [3] rfl ?_
      exact hk49 _ _ h
    · replace h := gif_f h c3
      refine x_aloadn 14 0 d_M_told_14 rfl rfl ?_
      replace h := gb1_elim h; obtain ⟨v4, h5, h⟩ := h
      refine x_getR 15 h5 fl_M_13 d_M_told_15 ?_
      refine x_iload 18 4 d_M_told_18 rfl ?_
      replace h := gb1_elim h; obtain ⟨v6, h7, h⟩ := h
      refine x_iald 20 rfl h7 d_M_told_20 ?_
      refine x_iloadn 21 1 d_M_told_21 rfl rfl ?_
      refine x_icmp_ne 22 41 d_M_told_22 (by decide) (fun c8 => ?_) (fun c8 => ?_)
      · replace h := gif_t h c8
        refine x_aloadn 25 0 d_M_told_25 rfl rfl ?_
        replace h := gb1_elim h; obtain ⟨v9, h10, h⟩ := h
        refine x_getR 26 h10 fl_M_17 d_M_told_26 ?_
        refine x_iload 29 4 d_M_told_29 rfl ?_
        replace h := gb1_elim h; obtain ⟨v11, h12, h⟩ := h
        refine x_iald 31 rfl h12 d_M_told_31 ?_
        refine x_iloadn 32 2 d_M_told_32 rfl rfl ?_
        refine x_icmp_ne 33 41 d_M_told_33 (by decide) (fun c13 => ?_) (fun c13 => ?_)
        · replace h := gif_t h c13
          refine x_iload 36 4 d_M_told_36 rfl ?_
          refine x_goto 38 42 d_M_told_38 (by decide) ?_
          refine x_istoren 42 (lv' := [(3, .inl p4), (0, .inr (.inr p0)), (1, .inl p1), (2, .inl p2), (4, .inl p4)]) d_M_told_42 rfl (by decide) rfl ?_
          replace h := gLet_elim h; obtain ⟨x14, ex14, h⟩ := h
          refine x_iinc 43 4 (v := x14) (lv' := [(4, .inl x14), (3, .inl p4), (0, .inr (.inr p0)), (1, .inl p1), (2, .inl p2)]) d_M_told_43 rfl (by rw [ex14]; rfl) (by decide) rfl ?_
          refine x_goto 46 5 d_M_told_46 (by decide) ?_
          refine x_sub [2, 3, 4, 1, 0] rfl ?_
          exact ih _ _ _ _ _ _ h
        · replace h := gif_f h c13
          refine x_iloadn 41 3 d_M_told_41 rfl rfl ?_
          refine x_istoren 42 (lv' := [(3, .inl p3), (0, .inr (.inr p0)), (1, .inl p1), (2, .inl p2), (4, .inl p4)]) d_M_told_42 rfl (by decide) rfl ?_
          replace h := gLet_elim h; obtain ⟨x15, ex15, h⟩ := h
          refine x_iinc 43 4 (v := x15) (lv' := [(4, .inl x15), (3, .inl p3), (0, .inr (.inr p0)), (1, .inl p1), (2, .inl p2)]) d_M_told_43 rfl (by rw [ex15]; rfl) (by decide) rfl ?_
          refine x_goto 46 5 d_M_told_46 (by decide) ?_
          refine x_sub [2, 3, 4, 1, 0] rfl ?_
          exact ih _ _ _ _ _ _ h
      · replace h := gif_f h c8
        refine x_iloadn 41 3 d_M_told_41 rfl rfl ?_
        refine x_istoren 42 (lv' := [(3, .inl p3), (0, .inr (.inr p0)), (1, .inl p1), (2, .inl p2), (4, .inl p4)]) d_M_told_42 rfl (by decide) rfl ?_
        replace h := gLet_elim h; obtain ⟨x16, ex16, h⟩ := h
        refine x_iinc 43 4 (v := x16) (lv' := [(4, .inl x16), (3, .inl p3), (0, .inr (.inr p0)), (1, .inl p1), (2, .inl p2)]) d_M_told_43 rfl (by rw [ex16]; rfl) (by decide) rfl ?_
        refine x_goto 46 5 d_M_told_46 (by decide) ?_
        refine x_sub [2, 3, 4, 1, 0] rfl ?_
        exact ih _ _ _ _ _ _ h
def F_M_told (b : Nat) (a0 : Int32) (a1 : Int32) (mm : gM) : Option (Int32 × gM) :=
  L_M_told_5 (fun p3 mm =>
    some (p3, mm)) gF (some b) a0 a1 (-1 : Int32) (0 : Int32) mm
set_option maxHeartbeats 8000000 in
set_option maxRecDepth 100000 in
theorem w_M_told {l : Launch} {E : gD} {n0 s0 : Nat} {b : Nat} {a0 : Int32} {a1 : Int32} {r : Int32} {mm res : gM} (h : F_M_told b a0 a1 mm = some (r, res)) : xX l E Y_M_told n0 s0 (some (.int r)) res 0 [(0, .inr (.inr (some b))), (1, .inl a0), (2, .inl a1)] [] mm := by
  unfold F_M_told at h
  refine x_iconst 0 d_M_told_0 (v := (-1 : Int32)) (by decide +kernel) ?_
  refine x_istoren 1 (lv' := [(3, .inl (-1 : Int32)), (0, .inr (.inr (some b))), (1, .inl a0), (2, .inl a1)]) d_M_told_1 rfl (by decide) rfl ?_
  refine x_iconst 2 d_M_told_2 (v := (0 : Int32)) (by decide +kernel) ?_
  refine x_istore 3 (lv' := [(4, .inl (0 : Int32)), (3, .inl (-1 : Int32)), (0, .inr (.inr (some b))), (1, .inl a0), (2, .inl a1)]) d_M_told_3 (by decide) rfl ?_
  refine x_sub [2, 3, 4, 1, 0] rfl ?_
  refine wL_M_told_5 ?_ gF _ _ _ _ _ _ h
  · intro p3 mm h
    refine x_iloadn 49 0 d_M_told_49 rfl rfl ?_
    cases h
    exact x_ireturn 50 rfl d_M_told_50
theorem k_M_told {b : Nat} {a0 : Int32} {a1 : Int32} {r : Int32} {mm res : gM} (h : F_M_told b a0 a1 mm = some (r, res)) : ∀ (l : Launch) (E : gD), gLe mm res ∧ gMet l E Y_M_told y_M_told [.inr (.inr (some b)), .inl a0, .inl a1] (some (.int r)) mm res :=
  fun l E => ⟨(w_M_told (l := l) (E := E) (n0 := 0) (s0 := 0) h).1, x_met (by decide +kernel) rfl rfl rfl (Nat.le_of_ble_eq_true rfl) (w_M_told h)⟩
