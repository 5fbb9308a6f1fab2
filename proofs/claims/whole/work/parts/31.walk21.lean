-- Clock_add S_mark M_mark Clock_lineFor
theorem d_Clock_add_0 : decode b_Clock_add 0 = .ok (.aload_n 0, 1) := by decide +kernel
theorem d_Clock_add_1 : decode b_Clock_add 1 = .ok (.getfield 18, 3) := by decide +kernel
theorem d_Clock_add_4 : decode b_Clock_add 4 = .ok (.bipush 6, 2) := by decide +kernel
theorem d_Clock_add_6 : decode b_Clock_add 6 = .ok (.if_icmp .lt 5, 3) := by decide +kernel
theorem d_Clock_add_9 : decode b_Clock_add 9 = .ok (.iconst 0, 1) := by decide +kernel
theorem d_Clock_add_10 : decode b_Clock_add 10 = .ok (.ireturn, 1) := by decide +kernel
theorem d_Clock_add_11 : decode b_Clock_add 11 = .ok (.aload_n 0, 1) := by decide +kernel
theorem d_Clock_add_12 : decode b_Clock_add 12 = .ok (.getfield 18, 3) := by decide +kernel
theorem d_Clock_add_15 : decode b_Clock_add 15 = .ok (.ifCond .le 37, 3) := by decide +kernel
theorem d_Clock_add_18 : decode b_Clock_add 18 = .ok (.lload_n 1, 1) := by decide +kernel
theorem d_Clock_add_19 : decode b_Clock_add 19 = .ok (.aload_n 0, 1) := by decide +kernel
theorem d_Clock_add_20 : decode b_Clock_add 20 = .ok (.getfield 9, 3) := by decide +kernel
theorem d_Clock_add_23 : decode b_Clock_add 23 = .ok (.aload_n 0, 1) := by decide +kernel
theorem d_Clock_add_24 : decode b_Clock_add 24 = .ok (.getfield 18, 3) := by decide +kernel
theorem d_Clock_add_27 : decode b_Clock_add 27 = .ok (.iconst 1, 1) := by decide +kernel
theorem d_Clock_add_28 : decode b_Clock_add 28 = .ok (.isub, 1) := by decide +kernel
theorem d_Clock_add_29 : decode b_Clock_add 29 = .ok (.laload, 1) := by decide +kernel
theorem d_Clock_add_30 : decode b_Clock_add 30 = .ok (.lcmp, 1) := by decide +kernel
theorem d_Clock_add_31 : decode b_Clock_add 31 = .ok (.ifCond .le 19, 3) := by decide +kernel
theorem d_Clock_add_34 : decode b_Clock_add 34 = .ok (.lload_n 3, 1) := by decide +kernel
theorem d_Clock_add_35 : decode b_Clock_add 35 = .ok (.aload_n 0, 1) := by decide +kernel
theorem d_Clock_add_36 : decode b_Clock_add 36 = .ok (.getfield 15, 3) := by decide +kernel
theorem d_Clock_add_39 : decode b_Clock_add 39 = .ok (.aload_n 0, 1) := by decide +kernel
theorem d_Clock_add_40 : decode b_Clock_add 40 = .ok (.getfield 18, 3) := by decide +kernel
theorem d_Clock_add_43 : decode b_Clock_add 43 = .ok (.iconst 1, 1) := by decide +kernel
theorem d_Clock_add_44 : decode b_Clock_add 44 = .ok (.isub, 1) := by decide +kernel
theorem d_Clock_add_45 : decode b_Clock_add 45 = .ok (.laload, 1) := by decide +kernel
theorem d_Clock_add_46 : decode b_Clock_add 46 = .ok (.lcmp, 1) := by decide +kernel
theorem d_Clock_add_47 : decode b_Clock_add 47 = .ok (.ifCond .gt 5, 3) := by decide +kernel
theorem d_Clock_add_50 : decode b_Clock_add 50 = .ok (.iconst 0, 1) := by decide +kernel
theorem d_Clock_add_51 : decode b_Clock_add 51 = .ok (.ireturn, 1) := by decide +kernel
theorem d_Clock_add_52 : decode b_Clock_add 52 = .ok (.aload_n 0, 1) := by decide +kernel
theorem d_Clock_add_53 : decode b_Clock_add 53 = .ok (.getfield 9, 3) := by decide +kernel
theorem d_Clock_add_56 : decode b_Clock_add 56 = .ok (.aload_n 0, 1) := by decide +kernel
theorem d_Clock_add_57 : decode b_Clock_add 57 = .ok (.getfield 18, 3) := by decide +kernel
theorem d_Clock_add_60 : decode b_Clock_add 60 = .ok (.lload_n 1, 1) := by decide +kernel
theorem d_Clock_add_61 : decode b_Clock_add 61 = .ok (.lastore, 1) := by decide +kernel
theorem d_Clock_add_62 : decode b_Clock_add 62 = .ok (.aload_n 0, 1) := by decide +kernel
theorem d_Clock_add_63 : decode b_Clock_add 63 = .ok (.getfield 15, 3) := by decide +kernel
theorem d_Clock_add_66 : decode b_Clock_add 66 = .ok (.aload_n 0, 1) := by decide +kernel
theorem d_Clock_add_67 : decode b_Clock_add 67 = .ok (.getfield 18, 3) := by decide +kernel
theorem d_Clock_add_70 : decode b_Clock_add 70 = .ok (.lload_n 3, 1) := by decide +kernel
theorem d_Clock_add_71 : decode b_Clock_add 71 = .ok (.lastore, 1) := by decide +kernel
theorem d_Clock_add_72 : decode b_Clock_add 72 = .ok (.aload_n 0, 1) := by decide +kernel
theorem d_Clock_add_73 : decode b_Clock_add 73 = .ok (.dup, 1) := by decide +kernel
theorem d_Clock_add_74 : decode b_Clock_add 74 = .ok (.getfield 18, 3) := by decide +kernel
theorem d_Clock_add_77 : decode b_Clock_add 77 = .ok (.iconst 1, 1) := by decide +kernel
theorem d_Clock_add_78 : decode b_Clock_add 78 = .ok (.iadd, 1) := by decide +kernel
theorem d_Clock_add_79 : decode b_Clock_add 79 = .ok (.putfield 18, 3) := by decide +kernel
theorem d_Clock_add_82 : decode b_Clock_add 82 = .ok (.iconst 1, 1) := by decide +kernel
theorem d_Clock_add_83 : decode b_Clock_add 83 = .ok (.ireturn, 1) := by decide +kernel
def F_Clock_add (b : Nat) (a0 : Int64) (a1 : Int64) (mm : gM) : Option (Int32 × gM) :=
  gb1 (gfI 3 2 (some b) mm) fun v1 =>
  if v1 < (6 : Int32) then (
    gb1 (gfI 3 2 (some b) mm) fun v4 =>
    gLet (fun (p0 : Option Nat) (p1 : Int64) (p3 : Int64) (mm : gM) =>
      gb1 (gfR 3 0 p0 mm) fun v6 =>
      gb1 (gfI 3 2 p0 mm) fun v8 =>
      gb1 (gsL 1 v6 v8 p1 mm) fun mm10 =>
      gb1 (gfR 3 1 p0 mm10) fun v12 =>
      gb1 (gfI 3 2 p0 mm10) fun v14 =>
      gb1 (gsL 1 v12 v14 p3 mm10) fun mm16 =>
      gb1 (gfI 3 2 p0 mm16) fun v18 =>
      gb1 (gpV 3 2 p0 (.int (v18 + (1 : Int32))) mm16) fun mm20 =>
      some ((1 : Int32), mm20)) fun J52 =>
    if v4 ≤ 0 then (
      J52 (some b) a0 a1 mm)
    else (
      gb1 (gfR 3 0 (some b) mm) fun v23 =>
      gb1 (gfI 3 2 (some b) mm) fun v25 =>
      gb1 (gaL 1 v23 (v25 - (1 : Int32)) mm) fun v27 =>
      if a0 ≤ v27 then (
        some ((0 : Int32), mm))
      else (
        gb1 (gfR 3 1 (some b) mm) fun v30 =>
        gb1 (gfI 3 2 (some b) mm) fun v32 =>
        gb1 (gaL 1 v30 (v32 - (1 : Int32)) mm) fun v34 =>
        if v34 < a1 then (
          J52 (some b) a0 a1 mm)
        else (
          some ((0 : Int32), mm)))))
  else (
    some ((0 : Int32), mm))
set_option maxHeartbeats 8000000 in
set_option maxRecDepth 100000 in
theorem w_Clock_add {l : Launch} {E : gD} {n0 s0 : Nat} {b : Nat} {a0 : Int64} {a1 : Int64} {r : Int32} {mm res : gM} (h : F_Clock_add b a0 a1 mm = some (r, res)) : xX l E Y_Clock_add n0 s0 (some (.int r)) res 0 [(0, .inr (.inr (some b))), (1, .inr (.inl a0)), (3, .inr (.inl a1))] [] mm := by
  unfold F_Clock_add at h
  refine x_aloadn 0 0 d_Clock_add_0 rfl rfl ?_
  replace h := gb1_elim h; obtain ⟨v1, h2, h⟩ := h
  refine x_getI 1 h2 fl_Clock_18 d_Clock_add_1 ?_
  refine x_bipush 4 d_Clock_add_4 (v := (6 : Int32)) (by decide +kernel) ?_
  refine x_icmp_lt 6 11 d_Clock_add_6 (by decide) (fun c3 => ?_) (fun c3 => ?_)
  · replace h := gif_t h c3
    refine x_aloadn 11 0 d_Clock_add_11 rfl rfl ?_
    replace h := gb1_elim h; obtain ⟨v4, h5, h⟩ := h
    refine x_getI 12 h5 fl_Clock_18 d_Clock_add_12 ?_
    replace h := gLet_elim h; obtain ⟨J52, hJ52, h⟩ := h
    have kJ52 : ∀ (p0 : Option Nat) (p1 : Int64) (p3 : Int64) (mm : gM), J52 p0 p1 p3 mm = some (r, res) → xX l E Y_Clock_add n0 s0 (some (.int r)) res 52 [(0, .inr (.inr p0)), (1, .inr (.inl p1)), (3, .inr (.inl p3))] [] mm := by
      intro p0 p1 p3 mm h
      rw [hJ52] at h
      refine x_aloadn 52 0 d_Clock_add_52 rfl rfl ?_
      replace h := gb1_elim h; obtain ⟨v6, h7, h⟩ := h
      refine x_getR 53 h7 fl_Clock_9 d_Clock_add_53 ?_
      refine x_aloadn 56 0 d_Clock_add_56 rfl rfl ?_
      replace h := gb1_elim h; obtain ⟨v8, h9, h⟩ := h
      refine x_getI 57 h9 fl_Clock_18 d_Clock_add_57 ?_
      refine x_lloadn 60 1 d_Clock_add_60 rfl rfl ?_
      replace h := gb1_elim h; obtain ⟨mm10, h11, h⟩ := h
      refine x_last 61 (by decide) rfl h11 d_Clock_add_61 ?_
      refine x_aloadn 62 0 d_Clock_add_62 rfl rfl ?_
      replace h := gb1_elim h; obtain ⟨v12, h13, h⟩ := h
      refine x_getR 63 h13 fl_Clock_15 d_Clock_add_63 ?_
      refine x_aloadn 66 0 d_Clock_add_66 rfl rfl ?_
      replace h := gb1_elim h; obtain ⟨v14, h15, h⟩ := h
      refine x_getI 67 h15 fl_Clock_18 d_Clock_add_67 ?_
      refine x_lloadn 70 2 d_Clock_add_70 rfl rfl ?_
      replace h := gb1_elim h; obtain ⟨mm16, h17, h⟩ := h
      refine x_last 71 (by decide) rfl h17 d_Clock_add_71 ?_
      refine x_aloadn 72 0 d_Clock_add_72 rfl rfl ?_
      refine x_dup 73 d_Clock_add_73 rfl ?_
      replace h := gb1_elim h; obtain ⟨v18, h19, h⟩ := h
      refine x_getI 74 h19 fl_Clock_18 d_Clock_add_74 ?_
      refine x_iconst 77 d_Clock_add_77 (v := (1 : Int32)) (by decide +kernel) ?_
      refine x_iadd 78 d_Clock_add_78 ?_
      replace h := gb1_elim h; obtain ⟨mm20, h21, h⟩ := h
      refine x_putV 79 fp_Clock_18 rfl rfl h21 d_Clock_add_79 ?_
      refine x_iconst 82 d_Clock_add_82 (v := (1 : Int32)) (by decide +kernel) ?_
      cases h
      exact x_zreturn 83 (by decide) rfl d_Clock_add_83
    refine x_if_le 15 52 d_Clock_add_15 (by decide) (fun c22 => ?_) (fun c22 => ?_)
    · replace h := gif_t h c22
      exact kJ52 _ _ _ _ h
    · replace h := gif_f h c22
      refine x_lloadn 18 1 d_Clock_add_18 rfl rfl ?_
      refine x_aloadn 19 0 d_Clock_add_19 rfl rfl ?_
      replace h := gb1_elim h; obtain ⟨v23, h24, h⟩ := h
      refine x_getR 20 h24 fl_Clock_9 d_Clock_add_20 ?_
      refine x_aloadn 23 0 d_Clock_add_23 rfl rfl ?_
      replace h := gb1_elim h; obtain ⟨v25, h26, h⟩ := h
      refine x_getI 24 h26 fl_Clock_18 d_Clock_add_24 ?_
      refine x_iconst 27 d_Clock_add_27 (v := (1 : Int32)) (by decide +kernel) ?_
      refine x_isub 28 d_Clock_add_28 ?_
      replace h := gb1_elim h; obtain ⟨v27, h28, h⟩ := h
      refine x_lald 29 rfl h28 d_Clock_add_29 ?_
      refine x_lc_le 30 50 d_Clock_add_30 d_Clock_add_31 (by decide) (fun c29 => ?_) (fun c29 => ?_)
      · replace h := gif_t h c29
        refine x_iconst 50 d_Clock_add_50 (v := (0 : Int32)) (by decide +kernel) ?_
        cases h
        exact x_zreturn 51 (by decide) rfl d_Clock_add_51
      · replace h := gif_f h c29
        refine x_lloadn 34 2 d_Clock_add_34 rfl rfl ?_
        refine x_aloadn 35 0 d_Clock_add_35 rfl rfl ?_
        replace h := gb1_elim h; obtain ⟨v30, h31, h⟩ := h
        refine x_getR 36 h31 fl_Clock_15 d_Clock_add_36 ?_
        refine x_aloadn 39 0 d_Clock_add_39 rfl rfl ?_
        replace h := gb1_elim h; obtain ⟨v32, h33, h⟩ := h
        refine x_getI 40 h33 fl_Clock_18 d_Clock_add_40 ?_
        refine x_iconst 43 d_Clock_add_43 (v := (1 : Int32)) (by decide +kernel) ?_
        refine x_isub 44 d_Clock_add_44 ?_
        replace h := gb1_elim h; obtain ⟨v34, h35, h⟩ := h
        refine x_lald 45 rfl h35 d_Clock_add_45 ?_
        refine x_lc_gt 46 52 d_Clock_add_46 d_Clock_add_47 (by decide) (fun c36 => ?_) (fun c36 => ?_)
        · replace h := gif_t h c36
          exact kJ52 _ _ _ _ h
        · replace h := gif_f h c36
          refine x_iconst 50 d_Clock_add_50 (v := (0 : Int32)) (by decide +kernel) ?_
          cases h
          exact x_zreturn 51 (by decide) rfl d_Clock_add_51
  · replace h := gif_f h c3
    refine x_iconst 9 d_Clock_add_9 (v := (0 : Int32)) (by decide +kernel) ?_
    cases h
    exact x_zreturn 10 (by decide) rfl d_Clock_add_10
theorem k_Clock_add {b : Nat} {a0 : Int64} {a1 : Int64} {r : Int32} {mm res : gM} (h : F_Clock_add b a0 a1 mm = some (r, res)) : ∀ (l : Launch) (E : gD), gLe mm res ∧ gMet l E Y_Clock_add y_Clock_add [.inr (.inr (some b)), .inr (.inl a0), .inr (.inl a1)] (some (.int r)) mm res :=
  fun l E => ⟨(w_Clock_add (l := l) (E := E) (n0 := 0) (s0 := 0) h).1, x_met (by decide +kernel) rfl rfl rfl (Nat.le_of_ble_eq_true rfl) (w_Clock_add h)⟩
theorem d_S_mark_0 : decode b_S_mark 0 = .ok (.aload_n 0, 1) := by decide +kernel
theorem d_S_mark_1 : decode b_S_mark 1 = .ok (.iload_n 1, 1) := by decide +kernel
theorem d_S_mark_2 : decode b_S_mark 2 = .ok (.invokevirtual 56, 3) := by decide +kernel
theorem d_S_mark_5 : decode b_S_mark 5 = .ok (.astore 6, 2) := by decide +kernel
theorem d_S_mark_7 : decode b_S_mark 7 = .ok (.aload 6, 2) := by decide +kernel
theorem d_S_mark_9 : decode b_S_mark 9 = .ok (.ifnull 36, 3) := by decide +kernel
theorem d_S_mark_12 : decode b_S_mark 12 = .ok (.lload_n 2, 1) := by decide +kernel
theorem d_S_mark_13 : decode b_S_mark 13 = .ok (.invokestatic 186, 3) := by decide +kernel
theorem d_S_mark_16 : decode b_S_mark 16 = .ok (.ifCond .eq 29, 3) := by decide +kernel
theorem d_S_mark_19 : decode b_S_mark 19 = .ok (.lload 4, 2) := by decide +kernel
theorem d_S_mark_21 : decode b_S_mark 21 = .ok (.invokestatic 186, 3) := by decide +kernel
theorem d_S_mark_24 : decode b_S_mark 24 = .ok (.ifCond .eq 21, 3) := by decide +kernel
theorem d_S_mark_27 : decode b_S_mark 27 = .ok (.aload 6, 2) := by decide +kernel
theorem d_S_mark_29 : decode b_S_mark 29 = .ok (.getfield 189, 3) := by decide +kernel
theorem d_S_mark_32 : decode b_S_mark 32 = .ok (.lload_n 2, 1) := by decide +kernel
theorem d_S_mark_33 : decode b_S_mark 33 = .ok (.lload 4, 2) := by decide +kernel
theorem d_S_mark_35 : decode b_S_mark 35 = .ok (.invokevirtual 193, 3) := by decide +kernel
theorem d_S_mark_38 : decode b_S_mark 38 = .ok (.ifCond .eq 7, 3) := by decide +kernel
theorem d_S_mark_41 : decode b_S_mark 41 = .ok (.iconst 1, 1) := by decide +kernel
theorem d_S_mark_42 : decode b_S_mark 42 = .ok (.goto 4, 3) := by decide +kernel
theorem d_S_mark_45 : decode b_S_mark 45 = .ok (.iconst 0, 1) := by decide +kernel
theorem d_S_mark_46 : decode b_S_mark 46 = .ok (.ireturn, 1) := by decide +kernel
def F_S_mark (b : Nat) (a0 : Int32) (a1 : Int64) (a2 : Int64) (mm : gM) : Option (Int32 × gM) :=
  gb1 (grc 0 (some b) mm) fun b4 =>
  gb2 (F_S_tellerAt b4 a0 mm) fun v1 mm2 =>
  if v1 = none then (
    some ((0 : Int32), mm2))
  else (
    gb2 (F_S_isSecond a1 mm2) fun v7 mm8 =>
    if v7 = 0 then (
      some ((0 : Int32), mm8))
    else (
      gb2 (F_S_isSecond a2 mm8) fun v11 mm12 =>
      if v11 = 0 then (
        some ((0 : Int32), mm12))
      else (
        gb1 (gfR 1 2 v1 mm12) fun v15 =>
        gb1 (grc 3 v15 mm12) fun b20 =>
        gb2 (F_Clock_add b20 a1 a2 mm12) fun v17 mm18 =>
        if v17 = 0 then (
          some ((0 : Int32), mm18))
        else (
          some ((1 : Int32), mm18)))))
set_option maxHeartbeats 8000000 in
set_option maxRecDepth 100000 in
theorem w_S_mark {l : Launch} {E : gD} {n0 s0 : Nat} {b : Nat} {a0 : Int32} {a1 : Int64} {a2 : Int64} {r : Int32} {mm res : gM} (h : F_S_mark b a0 a1 a2 mm = some (r, res)) : xX l E Y_S_mark n0 s0 (some (.int r)) res 0 [(0, .inr (.inr (some b))), (1, .inl a0), (2, .inr (.inl a1)), (4, .inr (.inl a2))] [] mm := by
  unfold F_S_mark at h
  refine x_aloadn 0 0 d_S_mark_0 rfl rfl ?_
  refine x_iloadn 1 1 d_S_mark_1 rfl rfl ?_
  replace h := gb1_elim h; obtain ⟨b4, h5, h⟩ := h
  replace h := gb2_elim h; obtain ⟨v1, mm2, h3, h⟩ := h
  refine x_callV 2 1 (as := [.inl a0]) (st' := []) (rs := [.inr (.inr v1)]) (k_S_tellerAt h3) rfl cf_S_56 ⟨rfl, by decide +kernel, by decide, by decide, Nat.le_of_ble_eq_true rfl⟩ h5 rfl d_S_mark_2 ?_
  refine x_astore 5 (lv' := [(6, .inr (.inr v1)), (0, .inr (.inr (some b))), (1, .inl a0), (2, .inr (.inl a1)), (4, .inr (.inl a2))]) d_S_mark_5 (by decide) rfl ?_
  refine x_aload 7 0 d_S_mark_7 rfl ?_
  refine x_ifnull 9 45 d_S_mark_9 (by decide) (fun c6 => ?_) (fun c6 => ?_)
  · replace h := gif_t h c6
    refine x_iconst 45 d_S_mark_45 (v := (0 : Int32)) (by decide +kernel) ?_
    cases h
    exact x_zreturn 46 (by decide) rfl d_S_mark_46
  · replace h := gif_f h c6
    refine x_lloadn 12 3 d_S_mark_12 rfl rfl ?_
    replace h := gb2_elim h; obtain ⟨v7, mm8, h9, h⟩ := h
    refine x_callS 13 1 (as := [.inr (.inl a1)]) (st' := []) (rs := [.inl v7]) (k_S_isSecond h9) rfl cf_S_186 ⟨rfl, by decide +kernel, by decide, by decide, Nat.le_of_ble_eq_true rfl⟩ rfl d_S_mark_13 ?_
    refine x_if_eq 16 45 d_S_mark_16 (by decide) (fun c10 => ?_) (fun c10 => ?_)
    · replace h := gif_t h c10
      refine x_iconst 45 d_S_mark_45 (v := (0 : Int32)) (by decide +kernel) ?_
      cases h
      exact x_zreturn 46 (by decide) rfl d_S_mark_46
    · replace h := gif_f h c10
      refine x_lload 19 4 d_S_mark_19 rfl ?_
      replace h := gb2_elim h; obtain ⟨v11, mm12, h13, h⟩ := h
      refine x_callS 21 1 (as := [.inr (.inl a2)]) (st' := []) (rs := [.inl v11]) (k_S_isSecond h13) rfl cf_S_186 ⟨rfl, by decide +kernel, by decide, by decide, Nat.le_of_ble_eq_true rfl⟩ rfl d_S_mark_21 ?_
      refine x_if_eq 24 45 d_S_mark_24 (by decide) (fun c14 => ?_) (fun c14 => ?_)
      · replace h := gif_t h c14
        refine x_iconst 45 d_S_mark_45 (v := (0 : Int32)) (by decide +kernel) ?_
        cases h
        exact x_zreturn 46 (by decide) rfl d_S_mark_46
      · replace h := gif_f h c14
        refine x_aload 27 0 d_S_mark_27 rfl ?_
        replace h := gb1_elim h; obtain ⟨v15, h16, h⟩ := h
        refine x_getR 29 h16 fl_S_189 d_S_mark_29 ?_
        refine x_lloadn 32 3 d_S_mark_32 rfl rfl ?_
        refine x_lload 33 4 d_S_mark_33 rfl ?_
        replace h := gb1_elim h; obtain ⟨b20, h21, h⟩ := h
        replace h := gb2_elim h; obtain ⟨v17, mm18, h19, h⟩ := h
        refine x_callV 35 2 (as := [.inr (.inl a1), .inr (.inl a2)]) (st' := []) (rs := [.inl v17]) (k_Clock_add h19) rfl cf_S_193 ⟨rfl, by decide +kernel, by decide, by decide, Nat.le_of_ble_eq_true rfl⟩ h21 rfl d_S_mark_35 ?_
        refine x_if_eq 38 45 d_S_mark_38 (by decide) (fun c22 => ?_) (fun c22 => ?_)
        · replace h := gif_t h c22
          refine x_iconst 45 d_S_mark_45 (v := (0 : Int32)) (by decide +kernel) ?_
          cases h
          exact x_zreturn 46 (by decide) rfl d_S_mark_46
        · replace h := gif_f h c22
          refine x_iconst 41 d_S_mark_41 (v := (1 : Int32)) (by decide +kernel) ?_
          refine x_goto 42 46 d_S_mark_42 (by decide) ?_
          cases h
          exact x_zreturn 46 (by decide) rfl d_S_mark_46
theorem k_S_mark {b : Nat} {a0 : Int32} {a1 : Int64} {a2 : Int64} {r : Int32} {mm res : gM} (h : F_S_mark b a0 a1 a2 mm = some (r, res)) : ∀ (l : Launch) (E : gD), gLe mm res ∧ gMet l E Y_S_mark y_S_mark [.inr (.inr (some b)), .inl a0, .inr (.inl a1), .inr (.inl a2)] (some (.int r)) mm res :=
  fun l E => ⟨(w_S_mark (l := l) (E := E) (n0 := 0) (s0 := 0) h).1, x_met (by decide +kernel) rfl rfl rfl (Nat.le_of_ble_eq_true rfl) (w_S_mark h)⟩
theorem d_M_mark_0 : decode b_M_mark 0 = .ok (.aload_n 0, 1) := by decide +kernel
theorem d_M_mark_1 : decode b_M_mark 1 = .ok (.iload_n 1, 1) := by decide +kernel
theorem d_M_mark_2 : decode b_M_mark 2 = .ok (.invokevirtual 92, 3) := by decide +kernel
theorem d_M_mark_5 : decode b_M_mark 5 = .ok (.ifCond .eq 30, 3) := by decide +kernel
theorem d_M_mark_8 : decode b_M_mark 8 = .ok (.lload_n 2, 1) := by decide +kernel
theorem d_M_mark_9 : decode b_M_mark 9 = .ok (.lconst 0, 1) := by decide +kernel
theorem d_M_mark_10 : decode b_M_mark 10 = .ok (.ldc2_w 108, 3) := by decide +kernel
theorem d_M_mark_13 : decode b_M_mark 13 = .ok (.invokestatic 98, 3) := by decide +kernel
theorem d_M_mark_16 : decode b_M_mark 16 = .ok (.ifCond .eq 19, 3) := by decide +kernel
theorem d_M_mark_19 : decode b_M_mark 19 = .ok (.lload 4, 2) := by decide +kernel
theorem d_M_mark_21 : decode b_M_mark 21 = .ok (.lconst 0, 1) := by decide +kernel
theorem d_M_mark_22 : decode b_M_mark 22 = .ok (.ldc2_w 108, 3) := by decide +kernel
theorem d_M_mark_25 : decode b_M_mark 25 = .ok (.invokestatic 98, 3) := by decide +kernel
theorem d_M_mark_28 : decode b_M_mark 28 = .ok (.ifCond .eq 7, 3) := by decide +kernel
theorem d_M_mark_31 : decode b_M_mark 31 = .ok (.iconst 1, 1) := by decide +kernel
theorem d_M_mark_32 : decode b_M_mark 32 = .ok (.goto 4, 3) := by decide +kernel
theorem d_M_mark_35 : decode b_M_mark 35 = .ok (.iconst 0, 1) := by decide +kernel
theorem d_M_mark_36 : decode b_M_mark 36 = .ok (.istore 6, 2) := by decide +kernel
theorem d_M_mark_38 : decode b_M_mark 38 = .ok (.iload 6, 2) := by decide +kernel
theorem d_M_mark_40 : decode b_M_mark 40 = .ok (.ifCond .eq 14, 3) := by decide +kernel
theorem d_M_mark_43 : decode b_M_mark 43 = .ok (.aload_n 0, 1) := by decide +kernel
theorem d_M_mark_44 : decode b_M_mark 44 = .ok (.getfield 70, 3) := by decide +kernel
theorem d_M_mark_47 : decode b_M_mark 47 = .ok (.iload_n 1, 1) := by decide +kernel
theorem d_M_mark_48 : decode b_M_mark 48 = .ok (.iaload, 1) := by decide +kernel
theorem d_M_mark_49 : decode b_M_mark 49 = .ok (.bipush 6, 2) := by decide +kernel
theorem d_M_mark_51 : decode b_M_mark 51 = .ok (.if_icmp .ne 5, 3) := by decide +kernel
theorem d_M_mark_54 : decode b_M_mark 54 = .ok (.iconst 0, 1) := by decide +kernel
theorem d_M_mark_55 : decode b_M_mark 55 = .ok (.ireturn, 1) := by decide +kernel
theorem d_M_mark_56 : decode b_M_mark 56 = .ok (.bipush 6, 2) := by decide +kernel
theorem d_M_mark_58 : decode b_M_mark 58 = .ok (.iload_n 1, 1) := by decide +kernel
theorem d_M_mark_59 : decode b_M_mark 59 = .ok (.imul, 1) := by decide +kernel
theorem d_M_mark_60 : decode b_M_mark 60 = .ok (.aload_n 0, 1) := by decide +kernel
theorem d_M_mark_61 : decode b_M_mark 61 = .ok (.getfield 70, 3) := by decide +kernel
theorem d_M_mark_64 : decode b_M_mark 64 = .ok (.iload_n 1, 1) := by decide +kernel
theorem d_M_mark_65 : decode b_M_mark 65 = .ok (.iaload, 1) := by decide +kernel
theorem d_M_mark_66 : decode b_M_mark 66 = .ok (.iadd, 1) := by decide +kernel
theorem d_M_mark_67 : decode b_M_mark 67 = .ok (.istore 7, 2) := by decide +kernel
theorem d_M_mark_69 : decode b_M_mark 69 = .ok (.aload_n 0, 1) := by decide +kernel
theorem d_M_mark_70 : decode b_M_mark 70 = .ok (.getfield 70, 3) := by decide +kernel
theorem d_M_mark_73 : decode b_M_mark 73 = .ok (.iload_n 1, 1) := by decide +kernel
theorem d_M_mark_74 : decode b_M_mark 74 = .ok (.iaload, 1) := by decide +kernel
theorem d_M_mark_75 : decode b_M_mark 75 = .ok (.ifCond .le 34, 3) := by decide +kernel
theorem d_M_mark_78 : decode b_M_mark 78 = .ok (.aload_n 0, 1) := by decide +kernel
theorem d_M_mark_79 : decode b_M_mark 79 = .ok (.getfield 73, 3) := by decide +kernel
theorem d_M_mark_82 : decode b_M_mark 82 = .ok (.iload 7, 2) := by decide +kernel
theorem d_M_mark_84 : decode b_M_mark 84 = .ok (.iconst 1, 1) := by decide +kernel
theorem d_M_mark_85 : decode b_M_mark 85 = .ok (.isub, 1) := by decide +kernel
theorem d_M_mark_86 : decode b_M_mark 86 = .ok (.laload, 1) := by decide +kernel
theorem d_M_mark_87 : decode b_M_mark 87 = .ok (.lload_n 2, 1) := by decide +kernel
theorem d_M_mark_88 : decode b_M_mark 88 = .ok (.lcmp, 1) := by decide +kernel
theorem d_M_mark_89 : decode b_M_mark 89 = .ok (.ifCond .ge 18, 3) := by decide +kernel
theorem d_M_mark_92 : decode b_M_mark 92 = .ok (.aload_n 0, 1) := by decide +kernel
theorem d_M_mark_93 : decode b_M_mark 93 = .ok (.getfield 76, 3) := by decide +kernel
theorem d_M_mark_96 : decode b_M_mark 96 = .ok (.iload 7, 2) := by decide +kernel
theorem d_M_mark_98 : decode b_M_mark 98 = .ok (.iconst 1, 1) := by decide +kernel
theorem d_M_mark_99 : decode b_M_mark 99 = .ok (.isub, 1) := by decide +kernel
theorem d_M_mark_100 : decode b_M_mark 100 = .ok (.laload, 1) := by decide +kernel
theorem d_M_mark_101 : decode b_M_mark 101 = .ok (.lload 4, 2) := by decide +kernel
theorem d_M_mark_103 : decode b_M_mark 103 = .ok (.lcmp, 1) := by decide +kernel
theorem d_M_mark_104 : decode b_M_mark 104 = .ok (.ifCond .lt 5, 3) := by decide +kernel
theorem d_M_mark_107 : decode b_M_mark 107 = .ok (.iconst 0, 1) := by decide +kernel
theorem d_M_mark_108 : decode b_M_mark 108 = .ok (.ireturn, 1) := by decide +kernel
theorem d_M_mark_109 : decode b_M_mark 109 = .ok (.aload_n 0, 1) := by decide +kernel
theorem d_M_mark_110 : decode b_M_mark 110 = .ok (.getfield 73, 3) := by decide +kernel
theorem d_M_mark_113 : decode b_M_mark 113 = .ok (.iload 7, 2) := by decide +kernel
theorem d_M_mark_115 : decode b_M_mark 115 = .ok (.lload_n 2, 1) := by decide +kernel
theorem d_M_mark_116 : decode b_M_mark 116 = .ok (.lastore, 1) := by decide +kernel
theorem d_M_mark_117 : decode b_M_mark 117 = .ok (.aload_n 0, 1) := by decide +kernel
theorem d_M_mark_118 : decode b_M_mark 118 = .ok (.getfield 76, 3) := by decide +kernel
theorem d_M_mark_121 : decode b_M_mark 121 = .ok (.iload 7, 2) := by decide +kernel
theorem d_M_mark_123 : decode b_M_mark 123 = .ok (.lload 4, 2) := by decide +kernel
theorem d_M_mark_125 : decode b_M_mark 125 = .ok (.lastore, 1) := by decide +kernel
theorem d_M_mark_126 : decode b_M_mark 126 = .ok (.aload_n 0, 1) := by decide +kernel
theorem d_M_mark_127 : decode b_M_mark 127 = .ok (.getfield 70, 3) := by decide +kernel
theorem d_M_mark_130 : decode b_M_mark 130 = .ok (.iload_n 1, 1) := by decide +kernel
theorem d_M_mark_131 : decode b_M_mark 131 = .ok (.dup2, 1) := by decide +kernel
theorem d_M_mark_132 : decode b_M_mark 132 = .ok (.iaload, 1) := by decide +kernel
theorem d_M_mark_133 : decode b_M_mark 133 = .ok (.iconst 1, 1) := by decide +kernel
theorem d_M_mark_134 : decode b_M_mark 134 = .ok (.iadd, 1) := by decide +kernel
theorem d_M_mark_135 : decode b_M_mark 135 = .ok (.iastore, 1) := by decide +kernel
theorem d_M_mark_136 : decode b_M_mark 136 = .ok (.iconst 1, 1) := by decide +kernel
theorem d_M_mark_137 : decode b_M_mark 137 = .ok (.ireturn, 1) := by decide +kernel
def F_M_mark (b : Nat) (a0 : Int32) (a1 : Int64) (a2 : Int64) (mm : gM) : Option (Int32 × gM) :=
  gb1 (grc 10 (some b) mm) fun b4 =>
  gb2 (F_M_isTeller b4 a0 mm) fun v1 mm2 =>
  gLet (fun (p0 : Option Nat) (p1 : Int32) (p2 : Int64) (p4 : Int64) (q0 : Int32) (mm : gM) =>
    if q0 = 0 then (
      some ((0 : Int32), mm))
    else (
      gb1 (gfR 10 23 p0 mm) fun v7 =>
      gb1 (gaI 0 v7 p1 mm) fun v9 =>
      if v9 = (6 : Int32) then (
        some ((0 : Int32), mm))
      else (
        gb1 (gfR 10 23 p0 mm) fun v12 =>
        gb1 (gaI 0 v12 p1 mm) fun v14 =>
        gLet (((6 : Int32) * p1) + v14) fun x16 =>
        gb1 (gfR 10 23 p0 mm) fun v17 =>
        gb1 (gaI 0 v17 p1 mm) fun v19 =>
        gLet (fun (p0 : Option Nat) (p1 : Int32) (p2 : Int64) (p4 : Int64) (p7 : Int32) (mm : gM) =>
          gb1 (gfR 10 24 p0 mm) fun v21 =>
          gb1 (gsL 1 v21 p7 p2 mm) fun mm23 =>
          gb1 (gfR 10 25 p0 mm23) fun v25 =>
          gb1 (gsL 1 v25 p7 p4 mm23) fun mm27 =>
          gb1 (gfR 10 23 p0 mm27) fun v29 =>
          gb1 (gaI 0 v29 p1 mm27) fun v31 =>
          gb1 (gsI 0 v29 p1 (v31 + (1 : Int32)) mm27) fun mm33 =>
          some ((1 : Int32), mm33)) fun J109 =>
        if v19 ≤ 0 then (
          J109 p0 p1 p2 p4 x16 mm)
        else (
          gb1 (gfR 10 24 p0 mm) fun v36 =>
          gb1 (gaL 1 v36 (x16 - (1 : Int32)) mm) fun v38 =>
          if p2 ≤ v38 then (
            some ((0 : Int32), mm))
          else (
            gb1 (gfR 10 25 p0 mm) fun v41 =>
            gb1 (gaL 1 v41 (x16 - (1 : Int32)) mm) fun v43 =>
            if v43 < p4 then (
              J109 p0 p1 p2 p4 x16 mm)
            else (
              some ((0 : Int32), mm))))))) fun J36 =>
  gLet (fun (p0 : Option Nat) (p1 : Int32) (p2 : Int64) (p4 : Int64) (mm : gM) =>
    J36 p0 p1 p2 p4 (0 : Int32) mm) fun J35 =>
  if v1 = 0 then (
    J35 (some b) a0 a1 a2 mm2)
  else (
    gb2 (F_M_isIn a1 (0 : Int64) (1000000000 : Int64) mm2) fun v47 mm48 =>
    if v47 = 0 then (
      J35 (some b) a0 a1 a2 mm48)
    else (
      gb2 (F_M_isIn a2 (0 : Int64) (1000000000 : Int64) mm48) fun v51 mm52 =>
      if v51 = 0 then (
        J35 (some b) a0 a1 a2 mm52)
      else (
        J36 (some b) a0 a1 a2 (1 : Int32) mm52)))
set_option maxHeartbeats 8000000 in
set_option maxRecDepth 100000 in
theorem w_M_mark {l : Launch} {E : gD} {n0 s0 : Nat} {b : Nat} {a0 : Int32} {a1 : Int64} {a2 : Int64} {r : Int32} {mm res : gM} (h : F_M_mark b a0 a1 a2 mm = some (r, res)) : xX l E Y_M_mark n0 s0 (some (.int r)) res 0 [(0, .inr (.inr (some b))), (1, .inl a0), (2, .inr (.inl a1)), (4, .inr (.inl a2))] [] mm := by
  unfold F_M_mark at h
  refine x_aloadn 0 0 d_M_mark_0 rfl rfl ?_
  refine x_iloadn 1 1 d_M_mark_1 rfl rfl ?_
  replace h := gb1_elim h; obtain ⟨b4, h5, h⟩ := h
  replace h := gb2_elim h; obtain ⟨v1, mm2, h3, h⟩ := h
  refine x_callV 2 1 (as := [.inl a0]) (st' := []) (rs := [.inl v1]) (k_M_isTeller h3) rfl cf_M_92 ⟨rfl, by decide +kernel, by decide, by decide, Nat.le_of_ble_eq_true rfl⟩ h5 rfl d_M_mark_2 ?_
  replace h := gLet_elim h; obtain ⟨J36, hJ36, h⟩ := h
  have kJ36 : ∀ (p0 : Option Nat) (p1 : Int32) (p2 : Int64) (p4 : Int64) (q0 : Int32) (mm : gM), J36 p0 p1 p2 p4 q0 mm = some (r, res) → xX l E Y_M_mark n0 s0 (some (.int r)) res 36 [(0, .inr (.inr p0)), (1, .inl p1), (2, .inr (.inl p2)), (4, .inr (.inl p4))] [.inl q0] mm := by
    intro p0 p1 p2 p4 q0 mm h
    rw [hJ36] at h
    refine x_istore 36 (lv' := [(6, .inl q0), (0, .inr (.inr p0)), (1, .inl p1), (2, .inr (.inl p2)), (4, .inr (.inl p4))]) d_M_mark_36 (by decide) rfl ?_
    refine x_iload 38 0 d_M_mark_38 rfl ?_
    refine x_if_eq 40 54 d_M_mark_40 (by decide) (fun c6 => ?_) (fun c6 => ?_)
    · replace h := gif_t h c6
      refine x_iconst 54 d_M_mark_54 (v := (0 : Int32)) (by decide +kernel) ?_
      cases h
      exact x_zreturn 55 (by decide) rfl d_M_mark_55
    · replace h := gif_f h c6
      refine x_aloadn 43 1 d_M_mark_43 rfl rfl ?_
      replace h := gb1_elim h; obtain ⟨v7, h8, h⟩ := h
      refine x_getR 44 h8 fl_M_70 d_M_mark_44 ?_
      refine x_iloadn 47 2 d_M_mark_47 rfl rfl ?_
      replace h := gb1_elim h; obtain ⟨v9, h10, h⟩ := h
      refine x_iald 48 rfl h10 d_M_mark_48 ?_
      refine x_bipush 49 d_M_mark_49 (v := (6 : Int32)) (by decide +kernel) ?_
      refine x_icmp_ne 51 56 d_M_mark_51 (by decide) (fun c11 => ?_) (fun c11 => ?_)
      · replace h := gif_t h c11
        refine x_iconst 54 d_M_mark_54 (v := (0 : Int32)) (by decide +kernel) ?_
        cases h
        exact x_zreturn 55 (by decide) rfl d_M_mark_55
      · replace h := gif_f h c11
        refine x_bipush 56 d_M_mark_56 (v := (6 : Int32)) (by decide +kernel) ?_
        refine x_iloadn 58 2 d_M_mark_58 rfl rfl ?_
        refine x_imul 59 d_M_mark_59 ?_
        refine x_aloadn 60 1 d_M_mark_60 rfl rfl ?_
        replace h := gb1_elim h; obtain ⟨v12, h13, h⟩ := h
        refine x_getR 61 h13 fl_M_70 d_M_mark_61 ?_
        refine x_iloadn 64 2 d_M_mark_64 rfl rfl ?_
        replace h := gb1_elim h; obtain ⟨v14, h15, h⟩ := h
        refine x_iald 65 rfl h15 d_M_mark_65 ?_
        refine x_iadd 66 d_M_mark_66 ?_
        replace h := gLet_elim h; obtain ⟨x16, ex16, h⟩ := h
        refine x_topi ex16 ?_
        refine x_istore 67 (lv' := [(7, .inl x16), (6, .inl q0), (0, .inr (.inr p0)), (1, .inl p1), (2, .inr (.inl p2)), (4, .inr (.inl p4))]) d_M_mark_67 (by decide) rfl ?_
        refine x_aloadn 69 2 d_M_mark_69 rfl rfl ?_
        replace h := gb1_elim h; obtain ⟨v17, h18, h⟩ := h
        refine x_getR 70 h18 fl_M_70 d_M_mark_70 ?_
        refine x_iloadn 73 3 d_M_mark_73 rfl rfl ?_
        replace h := gb1_elim h; obtain ⟨v19, h20, h⟩ := h
        refine x_iald 74 rfl h20 d_M_mark_74 ?_
        replace h := gLet_elim h; obtain ⟨J109, hJ109, h⟩ := h
        have kJ109 : ∀ (p0 : Option Nat) (p1 : Int32) (p2 : Int64) (p4 : Int64) (p7 : Int32) (mm : gM), J109 p0 p1 p2 p4 p7 mm = some (r, res) → xX l E Y_M_mark n0 s0 (some (.int r)) res 109 [(0, .inr (.inr p0)), (1, .inl p1), (2, .inr (.inl p2)), (4, .inr (.inl p4)), (7, .inl p7)] [] mm := by
          intro p0 p1 p2 p4 p7 mm h
          rw [hJ109] at h
          refine x_aloadn 109 0 d_M_mark_109 rfl rfl ?_
          replace h := gb1_elim h; obtain ⟨v21, h22, h⟩ := h
          refine x_getR 110 h22 fl_M_73 d_M_mark_110 ?_
          refine x_iload 113 4 d_M_mark_113 rfl ?_
          refine x_lloadn 115 2 d_M_mark_115 rfl rfl ?_
          replace h := gb1_elim h; obtain ⟨mm23, h24, h⟩ := h
          refine x_last 116 (by decide) rfl h24 d_M_mark_116 ?_
          refine x_aloadn 117 0 d_M_mark_117 rfl rfl ?_
          replace h := gb1_elim h; obtain ⟨v25, h26, h⟩ := h
          refine x_getR 118 h26 fl_M_76 d_M_mark_118 ?_
          refine x_iload 121 4 d_M_mark_121 rfl ?_
          refine x_lload 123 3 d_M_mark_123 rfl ?_
          replace h := gb1_elim h; obtain ⟨mm27, h28, h⟩ := h
          refine x_last 125 (by decide) rfl h28 d_M_mark_125 ?_
          refine x_aloadn 126 0 d_M_mark_126 rfl rfl ?_
          replace h := gb1_elim h; obtain ⟨v29, h30, h⟩ := h
          refine x_getR 127 h30 fl_M_70 d_M_mark_127 ?_
          refine x_iloadn 130 1 d_M_mark_130 rfl rfl ?_
          refine x_dup2 131 d_M_mark_131 rfl rfl ?_
          replace h := gb1_elim h; obtain ⟨v31, h32, h⟩ := h
          refine x_iald 132 rfl h32 d_M_mark_132 ?_
          refine x_iconst 133 d_M_mark_133 (v := (1 : Int32)) (by decide +kernel) ?_
          refine x_iadd 134 d_M_mark_134 ?_
          replace h := gb1_elim h; obtain ⟨mm33, h34, h⟩ := h
          refine x_iast 135 (by decide) rfl h34 d_M_mark_135 ?_
          refine x_iconst 136 d_M_mark_136 (v := (1 : Int32)) (by decide +kernel) ?_
          cases h
          exact x_zreturn 137 (by decide) rfl d_M_mark_137
        refine x_if_le 75 109 d_M_mark_75 (by decide) (fun c35 => ?_) (fun c35 => ?_)
        · replace h := gif_t h c35
          refine x_sub [2, 3, 4, 5, 0] rfl ?_
          exact kJ109 _ _ _ _ _ _ h
        · replace h := gif_f h c35
          refine x_aloadn 78 2 d_M_mark_78 rfl rfl ?_
          replace h := gb1_elim h; obtain ⟨v36, h37, h⟩ := h
          refine x_getR 79 h37 fl_M_73 d_M_mark_79 ?_
          refine x_iload 82 0 d_M_mark_82 rfl ?_
          refine x_iconst 84 d_M_mark_84 (v := (1 : Int32)) (by decide +kernel) ?_
          refine x_isub 85 d_M_mark_85 ?_
          replace h := gb1_elim h; obtain ⟨v38, h39, h⟩ := h
          refine x_lald 86 rfl h39 d_M_mark_86 ?_
          refine x_lloadn 87 4 d_M_mark_87 rfl rfl ?_
          refine x_lc_ge 88 107 d_M_mark_88 d_M_mark_89 (by decide) (fun c40 => ?_) (fun c40 => ?_)
          · replace h := gif_t h c40
            refine x_iconst 107 d_M_mark_107 (v := (0 : Int32)) (by decide +kernel) ?_
            cases h
            exact x_zreturn 108 (by decide) rfl d_M_mark_108
          · replace h := gif_f h c40
            refine x_aloadn 92 2 d_M_mark_92 rfl rfl ?_
            replace h := gb1_elim h; obtain ⟨v41, h42, h⟩ := h
            refine x_getR 93 h42 fl_M_76 d_M_mark_93 ?_
            refine x_iload 96 0 d_M_mark_96 rfl ?_
            refine x_iconst 98 d_M_mark_98 (v := (1 : Int32)) (by decide +kernel) ?_
            refine x_isub 99 d_M_mark_99 ?_
            replace h := gb1_elim h; obtain ⟨v43, h44, h⟩ := h
            refine x_lald 100 rfl h44 d_M_mark_100 ?_
            refine x_lload 101 5 d_M_mark_101 rfl ?_
            refine x_lc_lt 103 109 d_M_mark_103 d_M_mark_104 (by decide) (fun c45 => ?_) (fun c45 => ?_)
            · replace h := gif_t h c45
              refine x_sub [2, 3, 4, 5, 0] rfl ?_
              exact kJ109 _ _ _ _ _ _ h
            · replace h := gif_f h c45
              refine x_iconst 107 d_M_mark_107 (v := (0 : Int32)) (by decide +kernel) ?_
              cases h
              exact x_zreturn 108 (by decide) rfl d_M_mark_108
  replace h := gLet_elim h; obtain ⟨J35, hJ35, h⟩ := h
  have kJ35 : ∀ (p0 : Option Nat) (p1 : Int32) (p2 : Int64) (p4 : Int64) (mm : gM), J35 p0 p1 p2 p4 mm = some (r, res) → xX l E Y_M_mark n0 s0 (some (.int r)) res 35 [(0, .inr (.inr p0)), (1, .inl p1), (2, .inr (.inl p2)), (4, .inr (.inl p4))] [] mm := by
    intro p0 p1 p2 p4 mm h
    rw [hJ35] at h
    refine x_iconst 35 d_M_mark_35 (v := (0 : Int32)) (by decide +kernel) ?_
    exact kJ36 _ _ _ _ _ _ h
  refine x_if_eq 5 35 d_M_mark_5 (by decide) (fun c46 => ?_) (fun c46 => ?_)
  · replace h := gif_t h c46
    exact kJ35 _ _ _ _ _ h
  · replace h := gif_f h c46
    refine x_lloadn 8 2 d_M_mark_8 rfl rfl ?_
    refine x_lconst 9 d_M_mark_9 (v := (0 : Int64)) (by decide +kernel) ?_
    refine x_ldc2 10 d_M_mark_10 (v := (1000000000 : Int64)) (gT_in3 135 rfl) ?_
    replace h := gb2_elim h; obtain ⟨v47, mm48, h49, h⟩ := h
    refine x_callS 13 3 (as := [.inr (.inl a1), .inr (.inl (0 : Int64)), .inr (.inl (1000000000 : Int64))]) (st' := []) (rs := [.inl v47]) (k_M_isIn h49) rfl cf_M_98 ⟨rfl, by decide +kernel, by decide, by decide, Nat.le_of_ble_eq_true rfl⟩ rfl d_M_mark_13 ?_
    refine x_if_eq 16 35 d_M_mark_16 (by decide) (fun c50 => ?_) (fun c50 => ?_)
    · replace h := gif_t h c50
      exact kJ35 _ _ _ _ _ h
    · replace h := gif_f h c50
      refine x_lload 19 3 d_M_mark_19 rfl ?_
      refine x_lconst 21 d_M_mark_21 (v := (0 : Int64)) (by decide +kernel) ?_
      refine x_ldc2 22 d_M_mark_22 (v := (1000000000 : Int64)) (gT_in3 135 rfl) ?_
      replace h := gb2_elim h; obtain ⟨v51, mm52, h53, h⟩ := h
      refine x_callS 25 3 (as := [.inr (.inl a2), .inr (.inl (0 : Int64)), .inr (.inl (1000000000 : Int64))]) (st' := []) (rs := [.inl v51]) (k_M_isIn h53) rfl cf_M_98 ⟨rfl, by decide +kernel, by decide, by decide, Nat.le_of_ble_eq_true rfl⟩ rfl d_M_mark_25 ?_
      refine x_if_eq 28 35 d_M_mark_28 (by decide) (fun c54 => ?_) (fun c54 => ?_)
      · replace h := gif_t h c54
        exact kJ35 _ _ _ _ _ h
      · replace h := gif_f h c54
        refine x_iconst 31 d_M_mark_31 (v := (1 : Int32)) (by decide +kernel) ?_
        refine x_goto 32 36 d_M_mark_32 (by decide) ?_
        exact kJ36 _ _ _ _ _ _ h
theorem k_M_mark {b : Nat} {a0 : Int32} {a1 : Int64} {a2 : Int64} {r : Int32} {mm res : gM} (h : F_M_mark b a0 a1 a2 mm = some (r, res)) : ∀ (l : Launch) (E : gD), gLe mm res ∧ gMet l E Y_M_mark y_M_mark [.inr (.inr (some b)), .inl a0, .inr (.inl a1), .inr (.inl a2)] (some (.int r)) mm res :=
  fun l E => ⟨(w_M_mark (l := l) (E := E) (n0 := 0) (s0 := 0) h).1, x_met (by decide +kernel) rfl rfl rfl (Nat.le_of_ble_eq_true rfl) (w_M_mark h)⟩
theorem d_Clock_lineFor_0 : decode b_Clock_lineFor 0 = .ok (.iconst 0, 1) := by decide +kernel
theorem d_Clock_lineFor_1 : decode b_Clock_lineFor 1 = .ok (.istore_n 3, 1) := by decide +kernel
theorem d_Clock_lineFor_2 : decode b_Clock_lineFor 2 = .ok (.iload_n 3, 1) := by decide +kernel
theorem d_Clock_lineFor_3 : decode b_Clock_lineFor 3 = .ok (.aload_n 0, 1) := by decide +kernel
theorem d_Clock_lineFor_4 : decode b_Clock_lineFor 4 = .ok (.getfield 18, 3) := by decide +kernel
theorem d_Clock_lineFor_7 : decode b_Clock_lineFor 7 = .ok (.iconst 2, 1) := by decide +kernel
theorem d_Clock_lineFor_8 : decode b_Clock_lineFor 8 = .ok (.isub, 1) := by decide +kernel
theorem d_Clock_lineFor_9 : decode b_Clock_lineFor 9 = .ok (.if_icmp .ge 22, 3) := by decide +kernel
theorem d_Clock_lineFor_12 : decode b_Clock_lineFor 12 = .ok (.lload_n 1, 1) := by decide +kernel
theorem d_Clock_lineFor_13 : decode b_Clock_lineFor 13 = .ok (.aload_n 0, 1) := by decide +kernel
theorem d_Clock_lineFor_14 : decode b_Clock_lineFor 14 = .ok (.getfield 9, 3) := by decide +kernel
theorem d_Clock_lineFor_17 : decode b_Clock_lineFor 17 = .ok (.iload_n 3, 1) := by decide +kernel
theorem d_Clock_lineFor_18 : decode b_Clock_lineFor 18 = .ok (.iconst 1, 1) := by decide +kernel
theorem d_Clock_lineFor_19 : decode b_Clock_lineFor 19 = .ok (.iadd, 1) := by decide +kernel
theorem d_Clock_lineFor_20 : decode b_Clock_lineFor 20 = .ok (.laload, 1) := by decide +kernel
theorem d_Clock_lineFor_21 : decode b_Clock_lineFor 21 = .ok (.lcmp, 1) := by decide +kernel
theorem d_Clock_lineFor_22 : decode b_Clock_lineFor 22 = .ok (.ifCond .le 9, 3) := by decide +kernel
theorem d_Clock_lineFor_25 : decode b_Clock_lineFor 25 = .ok (.iinc 3 1, 3) := by decide +kernel
theorem d_Clock_lineFor_28 : decode b_Clock_lineFor 28 = .ok (.goto (-26), 3) := by decide +kernel
theorem d_Clock_lineFor_31 : decode b_Clock_lineFor 31 = .ok (.iload_n 3, 1) := by decide +kernel
theorem d_Clock_lineFor_32 : decode b_Clock_lineFor 32 = .ok (.ireturn, 1) := by decide +kernel
def L_Clock_lineFor_2 (k31 : Int32 → gM → Option (Int32 × gM)) : Nat → Option Nat → Int64 → Int32 → gM → Option (Int32 × gM)
  | 0, _, _, _, _ => none
  | f + 1, p0, p1, p3, mm =>
    gb1 (gfI 3 2 p0 mm) fun v1 =>
    if (v1 - (2 : Int32)) ≤ p3 then (
      k31 p3 mm)
    else (
      gb1 (gfR 3 0 p0 mm) fun v4 =>
      gb1 (gaL 1 v4 (p3 + (1 : Int32)) mm) fun v6 =>
      if p1 ≤ v6 then (
        k31 p3 mm)
      else (
        gLet (p3 + 1) fun x9 =>
        L_Clock_lineFor_2 k31 f p0 p1 x9 mm))
set_option maxHeartbeats 4000000 in
set_option maxRecDepth 100000 in
theorem wL_Clock_lineFor_2 {l : Launch} {E : gD} {n0 s0 : Nat} {r : Int32} {res : gM} {k31 : Int32 → gM → Option (Int32 × gM)} (hk31 : ∀ (p3 : Int32) (mm : gM), k31 p3 mm = some (r, res) → xX l E Y_Clock_lineFor n0 s0 (some (.int r)) res 31 [(3, .inl p3)] [] mm) : ∀ (f : Nat) (p0 : Option Nat) (p1 : Int64) (p3 : Int32) (mm : gM), L_Clock_lineFor_2 k31 f p0 p1 p3 mm = some (r, res) → xX l E Y_Clock_lineFor n0 s0 (some (.int r)) res 2 [(0, .inr (.inr p0)), (1, .inr (.inl p1)), (3, .inl p3)] [] mm := by
  intro f
  induction f with
  | zero =>
    intro p0 p1 p3 mm h
    rw [L_Clock_lineFor_2] at h
    cases h
  | succ f ih =>
    intro p0 p1 p3 mm h
    rw [L_Clock_lineFor_2] at h
    refine x_iloadn 2 2 d_Clock_lineFor_2 rfl rfl ?_
    refine x_aloadn 3 0 d_Clock_lineFor_3 rfl rfl ?_
    replace h := gb1_elim h; obtain ⟨v1, h2, h⟩ := h
    refine x_getI 4 h2 fl_Clock_18 d_Clock_lineFor_4 ?_
    refine x_iconst 7 d_Clock_lineFor_7 (v := (2 : Int32)) (by decide +kernel) ?_
    refine x_isub 8 d_Clock_lineFor_8 ?_
    refine x_icmp_ge 9 31 d_Clock_lineFor_9 (by decide) (fun c3 => ?_) (fun c3 => ?_)
    · replace h := gif_t h c3
      refine x_sub [2] rfl ?_
      exact hk31 _ _ h
    · replace h := gif_f h c3
      refine x_lloadn 12 1 d_Clock_lineFor_12 rfl rfl ?_
      refine x_aloadn 13 0 d_Clock_lineFor_13 rfl rfl ?_
      replace h := gb1_elim h; obtain ⟨v4, h5, h⟩ := h
      refine x_getR 14 h5 fl_Clock_9 d_Clock_lineFor_14 ?_
      refine x_iloadn 17 2 d_Clock_lineFor_17 rfl rfl ?_
      refine x_iconst 18 d_Clock_lineFor_18 (v := (1 : Int32)) (by decide +kernel) ?_
      refine x_iadd 19 d_Clock_lineFor_19 ?_
      replace h := gb1_elim h; obtain ⟨v6, h7, h⟩ := h
      refine x_lald 20 rfl h7 d_Clock_lineFor_20 ?_
      refine x_lc_le 21 31 d_Clock_lineFor_21 d_Clock_lineFor_22 (by decide) (fun c8 => ?_) (fun c8 => ?_)
      · replace h := gif_t h c8
        refine x_sub [2] rfl ?_
        exact hk31 _ _ h
      · replace h := gif_f h c8
        replace h := gLet_elim h; obtain ⟨x9, ex9, h⟩ := h
        refine x_iinc 25 2 (v := x9) (lv' := [(3, .inl x9), (0, .inr (.inr p0)), (1, .inr (.inl p1))]) d_Clock_lineFor_25 rfl (by rw [ex9]; rfl) (by decide) rfl ?_
        refine x_goto 28 2 d_Clock_lineFor_28 (by decide) ?_
        refine x_sub [1, 2, 0] rfl ?_
        exact ih _ _ _ _ h
def F_Clock_lineFor (b : Nat) (a0 : Int64) (mm : gM) : Option (Int32 × gM) :=
  L_Clock_lineFor_2 (fun p3 mm =>
    some (p3, mm)) gF (some b) a0 (0 : Int32) mm
set_option maxHeartbeats 8000000 in
set_option maxRecDepth 100000 in
theorem w_Clock_lineFor {l : Launch} {E : gD} {n0 s0 : Nat} {b : Nat} {a0 : Int64} {r : Int32} {mm res : gM} (h : F_Clock_lineFor b a0 mm = some (r, res)) : xX l E Y_Clock_lineFor n0 s0 (some (.int r)) res 0 [(0, .inr (.inr (some b))), (1, .inr (.inl a0))] [] mm := by
  unfold F_Clock_lineFor at h
  refine x_iconst 0 d_Clock_lineFor_0 (v := (0 : Int32)) (by decide +kernel) ?_
  refine x_istoren 1 (lv' := [(3, .inl (0 : Int32)), (0, .inr (.inr (some b))), (1, .inr (.inl a0))]) d_Clock_lineFor_1 rfl (by decide) rfl ?_
  refine x_sub [1, 2, 0] rfl ?_
  refine wL_Clock_lineFor_2 ?_ gF _ _ _ _ h
  · intro p3 mm h
    refine x_iloadn 31 0 d_Clock_lineFor_31 rfl rfl ?_
    cases h
    exact x_ireturn 32 rfl d_Clock_lineFor_32
theorem k_Clock_lineFor {b : Nat} {a0 : Int64} {r : Int32} {mm res : gM} (h : F_Clock_lineFor b a0 mm = some (r, res)) : ∀ (l : Launch) (E : gD), gLe mm res ∧ gMet l E Y_Clock_lineFor y_Clock_lineFor [.inr (.inr (some b)), .inr (.inl a0)] (some (.int r)) mm res :=
  fun l E => ⟨(w_Clock_lineFor (l := l) (E := E) (n0 := 0) (s0 := 0) h).1, x_met (by decide +kernel) rfl rfl rfl (Nat.le_of_ble_eq_true rfl) (w_Clock_lineFor h)⟩
