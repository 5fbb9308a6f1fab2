-- S_findCurrent Current_has Current_commonValue Holding_hasSettling Settling_isMadeFor Current_valueBy
theorem d_S_findCurrent_0 : decode b_S_findCurrent 0 = .ok (.aload_n 0, 1) := by decide +kernel
theorem d_S_findCurrent_1 : decode b_S_findCurrent 1 = .ok (.getfield 37, 3) := by decide +kernel
theorem d_S_findCurrent_4 : decode b_S_findCurrent 4 = .ok (.invokevirtual 212, 3) := by decide +kernel
theorem d_S_findCurrent_7 : decode b_S_findCurrent 7 = .ok (.iload_n 2, 1) := by decide +kernel
theorem d_S_findCurrent_8 : decode b_S_findCurrent 8 = .ok (.ifCond .lt 10, 3) := by decide +kernel
theorem d_S_findCurrent_11 : decode b_S_findCurrent 11 = .ok (.iload_n 2, 1) := by decide +kernel
theorem d_S_findCurrent_12 : decode b_S_findCurrent 12 = .ok (.sipush 128, 3) := by decide +kernel
theorem d_S_findCurrent_15 : decode b_S_findCurrent 15 = .ok (.if_icmp .lt 4, 3) := by decide +kernel
theorem d_S_findCurrent_18 : decode b_S_findCurrent 18 = .ok (.return_, 1) := by decide +kernel
theorem d_S_findCurrent_19 : decode b_S_findCurrent 19 = .ok (.aload_n 0, 1) := by decide +kernel
theorem d_S_findCurrent_20 : decode b_S_findCurrent 20 = .ok (.getfield 26, 3) := by decide +kernel
theorem d_S_findCurrent_23 : decode b_S_findCurrent 23 = .ok (.iload_n 2, 1) := by decide +kernel
theorem d_S_findCurrent_24 : decode b_S_findCurrent 24 = .ok (.aaload, 1) := by decide +kernel
theorem d_S_findCurrent_25 : decode b_S_findCurrent 25 = .ok (.astore 4, 2) := by decide +kernel
theorem d_S_findCurrent_27 : decode b_S_findCurrent 27 = .ok (.aload 4, 2) := by decide +kernel
theorem d_S_findCurrent_29 : decode b_S_findCurrent 29 = .ok (.ifnull 40, 3) := by decide +kernel
theorem d_S_findCurrent_32 : decode b_S_findCurrent 32 = .ok (.aload 4, 2) := by decide +kernel
theorem d_S_findCurrent_34 : decode b_S_findCurrent 34 = .ok (.getfield 215, 3) := by decide +kernel
theorem d_S_findCurrent_37 : decode b_S_findCurrent 37 = .ok (.iload_n 3, 1) := by decide +kernel
theorem d_S_findCurrent_38 : decode b_S_findCurrent 38 = .ok (.if_icmp .gt 21, 3) := by decide +kernel
theorem d_S_findCurrent_41 : decode b_S_findCurrent 41 = .ok (.aload_n 1, 1) := by decide +kernel
theorem d_S_findCurrent_42 : decode b_S_findCurrent 42 = .ok (.aload 4, 2) := by decide +kernel
theorem d_S_findCurrent_44 : decode b_S_findCurrent 44 = .ok (.invokevirtual 218, 3) := by decide +kernel
theorem d_S_findCurrent_47 : decode b_S_findCurrent 47 = .ok (.ifCond .eq 12, 3) := by decide +kernel
theorem d_S_findCurrent_50 : decode b_S_findCurrent 50 = .ok (.aload_n 0, 1) := by decide +kernel
theorem d_S_findCurrent_51 : decode b_S_findCurrent 51 = .ok (.getfield 37, 3) := by decide +kernel
theorem d_S_findCurrent_54 : decode b_S_findCurrent 54 = .ok (.aload 4, 2) := by decide +kernel
theorem d_S_findCurrent_56 : decode b_S_findCurrent 56 = .ok (.invokevirtual 221, 3) := by decide +kernel
theorem d_S_findCurrent_59 : decode b_S_findCurrent 59 = .ok (.aload 4, 2) := by decide +kernel
theorem d_S_findCurrent_61 : decode b_S_findCurrent 61 = .ok (.getfield 224, 3) := by decide +kernel
theorem d_S_findCurrent_64 : decode b_S_findCurrent 64 = .ok (.astore 4, 2) := by decide +kernel
theorem d_S_findCurrent_66 : decode b_S_findCurrent 66 = .ok (.goto (-39), 3) := by decide +kernel
theorem d_S_findCurrent_69 : decode b_S_findCurrent 69 = .ok (.return_, 1) := by decide +kernel
def L_S_findCurrent_27 (k69 : gM → Option (Unit × gM)) : Nat → Option Nat → Option Nat → Int32 → Option Nat → gM → Option (Unit × gM)
  | 0, _, _, _, _, _ => none
  | f + 1, p0, p1, p3, p4, mm =>
    if p4 = none then (
      k69  mm)
    else (
      gb1 (gfI 7 5 p4 mm) fun v15 =>
      if p3 < v15 then (
        gb1 (gfR 7 6 p4 mm) fun v18 =>
        L_S_findCurrent_27 k69 f p0 p1 p3 v18 mm)
      else (
        gb1 (grc 5 p1 mm) fun b23 =>
        gb2 (F_Holding_has b23 p4 mm) fun v20 mm21 =>
        if v20 = 0 then (
          gb1 (gfR 7 6 p4 mm21) fun v26 =>
          L_S_findCurrent_27 k69 f p0 p1 p3 v26 mm21)
        else (
          gb1 (gfR 0 5 p0 mm21) fun v28 =>
          gb1 (grc 8 v28 mm21) fun b33 =>
          gb2 (F_Current_offer b33 p4 mm21) fun v30 mm31 =>
          gb1 (gfR 7 6 p4 mm31) fun v35 =>
          L_S_findCurrent_27 k69 f p0 p1 p3 v35 mm31)))
set_option maxHeartbeats 4000000 in
set_option maxRecDepth 100000 in
theorem wL_S_findCurrent_27 {l : Launch} {E : gD} {n0 s0 : Nat} {r : Unit} {res : gM} {k69 : gM → Option (Unit × gM)} (hk69 : ∀  (mm : gM), k69  mm = some (r, res) → xX l E Y_S_findCurrent n0 s0 none res 69 [] [] mm) : ∀ (f : Nat) (p0 : Option Nat) (p1 : Option Nat) (p3 : Int32) (p4 : Option Nat) (mm : gM), L_S_findCurrent_27 k69 f p0 p1 p3 p4 mm = some (r, res) → xX l E Y_S_findCurrent n0 s0 none res 27 [(0, .inr (.inr p0)), (1, .inr (.inr p1)), (3, .inl p3), (4, .inr (.inr p4))] [] mm := by
  intro f
  induction f with
  | zero =>
    intro p0 p1 p3 p4 mm h
    rw [L_S_findCurrent_27] at h
    cases h
  | succ f ih =>
    intro p0 p1 p3 p4 mm h
    rw [L_S_findCurrent_27] at h
    refine x_aload 27 3 d_S_findCurrent_27 rfl ?_
    refine x_ifnull 29 69 d_S_findCurrent_29 (by decide) (fun c14 => ?_) (fun c14 => ?_)
    · replace h := gif_t h c14
      refine x_sub [] rfl ?_
      exact hk69 _ h
    · replace h := gif_f h c14
      refine x_aload 32 3 d_S_findCurrent_32 rfl ?_
      replace h := gb1_elim h; obtain ⟨v15, h16, h⟩ := h
      refine x_getI 34 h16 fl_S_215 d_S_findCurrent_34 ?_
      refine x_iloadn 37 2 d_S_findCurrent_37 rfl rfl ?_
      refine x_icmp_gt 38 59 d_S_findCurrent_38 (by decide) (fun c17 => ?_) (fun c17 => ?_)
      · replace h := gif_t h c17
        refine x_aload 59 3 d_S_findCurrent_59 rfl ?_
        replace h := gb1_elim h; obtain ⟨v18, h19, h⟩ := h
        refine x_getR 61 h19 fl_S_224 d_S_findCurrent_61 ?_
        refine x_astore 64 (lv' := [(4, .inr (.inr v18)), (0, .inr (.inr p0)), (1, .inr (.inr p1)), (3, .inl p3)]) d_S_findCurrent_64 (by decide) rfl ?_
        refine x_goto 66 27 d_S_findCurrent_66 (by decide) ?_
        refine x_sub [1, 2, 3, 0] rfl ?_
        exact ih _ _ _ _ _ h
      · replace h := gif_f h c17
        refine x_aloadn 41 1 d_S_findCurrent_41 rfl rfl ?_
        refine x_aload 42 3 d_S_findCurrent_42 rfl ?_
        replace h := gb1_elim h; obtain ⟨b23, h24, h⟩ := h
        replace h := gb2_elim h; obtain ⟨v20, mm21, h22, h⟩ := h
        refine x_callV 44 1 (as := [.inr (.inr p4)]) (st' := []) (rs := [.inl v20]) (k_Holding_has h22) rfl cf_S_218 ⟨rfl, by decide +kernel, by decide, by decide, Nat.le_of_ble_eq_true rfl⟩ h24 rfl d_S_findCurrent_44 ?_
        refine x_if_eq 47 59 d_S_findCurrent_47 (by decide) (fun c25 => ?_) (fun c25 => ?_)
        · replace h := gif_t h c25
          refine x_aload 59 3 d_S_findCurrent_59 rfl ?_
          replace h := gb1_elim h; obtain ⟨v26, h27, h⟩ := h
          refine x_getR 61 h27 fl_S_224 d_S_findCurrent_61 ?_
          refine x_astore 64 (lv' := [(4, .inr (.inr v26)), (0, .inr (.inr p0)), (1, .inr (.inr p1)), (3, .inl p3)]) d_S_findCurrent_64 (by decide) rfl ?_
          refine x_goto 66 27 d_S_findCurrent_66 (by decide) ?_
          refine x_sub [1, 2, 3, 0] rfl ?_
          exact ih _ _ _ _ _ h
        · replace h := gif_f h c25
          refine x_aloadn 50 0 d_S_findCurrent_50 rfl rfl ?_
          replace h := gb1_elim h; obtain ⟨v28, h29, h⟩ := h
          refine x_getR 51 h29 fl_S_37 d_S_findCurrent_51 ?_
          refine x_aload 54 3 d_S_findCurrent_54 rfl ?_
          replace h := gb1_elim h; obtain ⟨b33, h34, h⟩ := h
          replace h := gb2_elim h; obtain ⟨v30, mm31, h32, h⟩ := h
          refine x_callV 56 1 (as := [.inr (.inr p4)]) (st' := []) (rs := []) (k_Current_offer h32) rfl cf_S_221 ⟨rfl, by decide +kernel, by decide, by decide, Nat.le_of_ble_eq_true rfl⟩ h34 rfl d_S_findCurrent_56 ?_
          refine x_aload 59 3 d_S_findCurrent_59 rfl ?_
          replace h := gb1_elim h; obtain ⟨v35, h36, h⟩ := h
          refine x_getR 61 h36 fl_S_224 d_S_findCurrent_61 ?_
          refine x_astore 64 (lv' := [(4, .inr (.inr v35)), (0, .inr (.inr p0)), (1, .inr (.inr p1)), (3, .inl p3)]) d_S_findCurrent_64 (by decide) rfl ?_
          refine x_goto 66 27 d_S_findCurrent_66 (by decide) ?_
          refine x_sub [1, 2, 3, 0] rfl ?_
          exact ih _ _ _ _ _ h
def F_S_findCurrent (b : Nat) (a0 : Option Nat) (a1 : Int32) (a2 : Int32) (mm : gM) : Option (Unit × gM) :=
  gb1 (gfR 0 5 (some b) mm) fun v1 =>
  gb1 (grc 8 v1 mm) fun b6 =>
  gb2 (F_Current_clear b6  mm) fun v3 mm4 =>
  if a1 < 0 then (
    some ((), mm4))
  else (
    if a1 < (128 : Int32) then (
      gb1 (gfR 0 3 (some b) mm4) fun v10 =>
      gb1 (gaR 3 v10 a1 mm4) fun v12 =>
      L_S_findCurrent_27 (fun  mm =>
        some ((), mm)) gF (some b) a0 a2 v12 mm4)
    else (
      some ((), mm4)))
set_option maxHeartbeats 8000000 in
set_option maxRecDepth 100000 in
theorem w_S_findCurrent {l : Launch} {E : gD} {n0 s0 : Nat} {b : Nat} {a0 : Option Nat} {a1 : Int32} {a2 : Int32} {r : Unit} {mm res : gM} (h : F_S_findCurrent b a0 a1 a2 mm = some (r, res)) : xX l E Y_S_findCurrent n0 s0 none res 0 [(0, .inr (.inr (some b))), (1, .inr (.inr a0)), (2, .inl a1), (3, .inl a2)] [] mm := by
  unfold F_S_findCurrent at h
  refine x_aloadn 0 0 d_S_findCurrent_0 rfl rfl ?_
  replace h := gb1_elim h; obtain ⟨v1, h2, h⟩ := h
  refine x_getR 1 h2 fl_S_37 d_S_findCurrent_1 ?_
  replace h := gb1_elim h; obtain ⟨b6, h7, h⟩ := h
  replace h := gb2_elim h; obtain ⟨v3, mm4, h5, h⟩ := h
  refine x_callV 4 0 (as := []) (st' := []) (rs := []) (k_Current_clear h5) rfl cf_S_212 ⟨rfl, by decide +kernel, by decide, by decide, Nat.le_of_ble_eq_true rfl⟩ h7 rfl d_S_findCurrent_4 ?_
  refine x_iloadn 7 2 d_S_findCurrent_7 rfl rfl ?_
  refine x_if_lt 8 18 d_S_findCurrent_8 (by decide) (fun c8 => ?_) (fun c8 => ?_)
  · replace h := gif_t h c8
    cases h
    exact x_return 18 rfl d_S_findCurrent_18
  · replace h := gif_f h c8
    refine x_iloadn 11 2 d_S_findCurrent_11 rfl rfl ?_
    refine x_sipush 12 d_S_findCurrent_12 (v := (128 : Int32)) (by decide +kernel) ?_
    refine x_icmp_lt 15 19 d_S_findCurrent_15 (by decide) (fun c9 => ?_) (fun c9 => ?_)
    · replace h := gif_t h c9
      refine x_aloadn 19 0 d_S_findCurrent_19 rfl rfl ?_
      replace h := gb1_elim h; obtain ⟨v10, h11, h⟩ := h
      refine x_getR 20 h11 fl_S_26 d_S_findCurrent_20 ?_
      refine x_iloadn 23 2 d_S_findCurrent_23 rfl rfl ?_
      replace h := gb1_elim h; obtain ⟨v12, h13, h⟩ := h
      refine x_aald 24 rfl h13 d_S_findCurrent_24 ?_
      refine x_astore 25 (lv' := [(4, .inr (.inr v12)), (0, .inr (.inr (some b))), (1, .inr (.inr a0)), (2, .inl a1), (3, .inl a2)]) d_S_findCurrent_25 (by decide) rfl ?_
      refine x_sub [1, 2, 4, 0] rfl ?_
      refine wL_S_findCurrent_27 ?_ gF _ _ _ _ _ h
      · intro  mm h
        cases h
        exact x_return 69 rfl d_S_findCurrent_69
    · replace h := gif_f h c9
      cases h
      exact x_return 18 rfl d_S_findCurrent_18
theorem k_S_findCurrent {b : Nat} {a0 : Option Nat} {a1 : Int32} {a2 : Int32} {r : Unit} {mm res : gM} (h : F_S_findCurrent b a0 a1 a2 mm = some (r, res)) : ∀ (l : Launch) (E : gD), gLe mm res ∧ gMet l E Y_S_findCurrent y_S_findCurrent [.inr (.inr (some b)), .inr (.inr a0), .inl a1, .inl a2] none mm res :=
  fun l E => ⟨(w_S_findCurrent (l := l) (E := E) (n0 := 0) (s0 := 0) h).1, x_met (by decide +kernel) rfl rfl rfl (Nat.le_of_ble_eq_true rfl) (w_S_findCurrent h)⟩
theorem d_Current_has_0 : decode b_Current_has 0 = .ok (.iload_n 1, 1) := by decide +kernel
theorem d_Current_has_1 : decode b_Current_has 1 = .ok (.ifCond .lt 22, 3) := by decide +kernel
theorem d_Current_has_4 : decode b_Current_has 4 = .ok (.iload_n 1, 1) := by decide +kernel
theorem d_Current_has_5 : decode b_Current_has 5 = .ok (.bipush 8, 2) := by decide +kernel
theorem d_Current_has_7 : decode b_Current_has 7 = .ok (.if_icmp .ge 16, 3) := by decide +kernel
theorem d_Current_has_10 : decode b_Current_has 10 = .ok (.aload_n 0, 1) := by decide +kernel
theorem d_Current_has_11 : decode b_Current_has 11 = .ok (.getfield 9, 3) := by decide +kernel
theorem d_Current_has_14 : decode b_Current_has 14 = .ok (.iload_n 1, 1) := by decide +kernel
theorem d_Current_has_15 : decode b_Current_has 15 = .ok (.iaload, 1) := by decide +kernel
theorem d_Current_has_16 : decode b_Current_has 16 = .ok (.ifCond .eq 7, 3) := by decide +kernel
theorem d_Current_has_19 : decode b_Current_has 19 = .ok (.iconst 1, 1) := by decide +kernel
theorem d_Current_has_20 : decode b_Current_has 20 = .ok (.goto 4, 3) := by decide +kernel
theorem d_Current_has_23 : decode b_Current_has 23 = .ok (.iconst 0, 1) := by decide +kernel
theorem d_Current_has_24 : decode b_Current_has 24 = .ok (.ireturn, 1) := by decide +kernel
def F_Current_has (b : Nat) (a0 : Int32) (mm : gM) : Option (Int32 × gM) :=
  if a0 < 0 then (
    some ((0 : Int32), mm))
  else (
    if (8 : Int32) ≤ a0 then (
      some ((0 : Int32), mm))
    else (
      gb1 (gfR 8 0 (some b) mm) fun v3 =>
      gb1 (gaI 0 v3 a0 mm) fun v5 =>
      if v5 = 0 then (
        some ((0 : Int32), mm))
      else (
        some ((1 : Int32), mm))))
set_option maxHeartbeats 8000000 in
set_option maxRecDepth 100000 in
theorem w_Current_has {l : Launch} {E : gD} {n0 s0 : Nat} {b : Nat} {a0 : Int32} {r : Int32} {mm res : gM} (h : F_Current_has b a0 mm = some (r, res)) : xX l E Y_Current_has n0 s0 (some (.int r)) res 0 [(0, .inr (.inr (some b))), (1, .inl a0)] [] mm := by
  unfold F_Current_has at h
  refine x_iloadn 0 1 d_Current_has_0 rfl rfl ?_
  refine x_if_lt 1 23 d_Current_has_1 (by decide) (fun c1 => ?_) (fun c1 => ?_)
  · replace h := gif_t h c1
    refine x_iconst 23 d_Current_has_23 (v := (0 : Int32)) (by decide +kernel) ?_
    cases h
    exact x_zreturn 24 (by decide) rfl d_Current_has_24
  · replace h := gif_f h c1
    refine x_iloadn 4 1 d_Current_has_4 rfl rfl ?_
    refine x_bipush 5 d_Current_has_5 (v := (8 : Int32)) (by decide +kernel) ?_
    refine x_icmp_ge 7 23 d_Current_has_7 (by decide) (fun c2 => ?_) (fun c2 => ?_)
    · replace h := gif_t h c2
      refine x_iconst 23 d_Current_has_23 (v := (0 : Int32)) (by decide +kernel) ?_
      cases h
      exact x_zreturn 24 (by decide) rfl d_Current_has_24
    · replace h := gif_f h c2
      refine x_aloadn 10 0 d_Current_has_10 rfl rfl ?_
      replace h := gb1_elim h; obtain ⟨v3, h4, h⟩ := h
      refine x_getR 11 h4 fl_Current_9 d_Current_has_11 ?_
      refine x_iloadn 14 1 d_Current_has_14 rfl rfl ?_
      replace h := gb1_elim h; obtain ⟨v5, h6, h⟩ := h
      refine x_iald 15 rfl h6 d_Current_has_15 ?_
      refine x_if_eq 16 23 d_Current_has_16 (by decide) (fun c7 => ?_) (fun c7 => ?_)
      · replace h := gif_t h c7
        refine x_iconst 23 d_Current_has_23 (v := (0 : Int32)) (by decide +kernel) ?_
        cases h
        exact x_zreturn 24 (by decide) rfl d_Current_has_24
      · replace h := gif_f h c7
        refine x_iconst 19 d_Current_has_19 (v := (1 : Int32)) (by decide +kernel) ?_
        refine x_goto 20 24 d_Current_has_20 (by decide) ?_
        cases h
        exact x_zreturn 24 (by decide) rfl d_Current_has_24
theorem k_Current_has {b : Nat} {a0 : Int32} {r : Int32} {mm res : gM} (h : F_Current_has b a0 mm = some (r, res)) : ∀ (l : Launch) (E : gD), gLe mm res ∧ gMet l E Y_Current_has y_Current_has [.inr (.inr (some b)), .inl a0] (some (.int r)) mm res :=
  fun l E => ⟨(w_Current_has (l := l) (E := E) (n0 := 0) (s0 := 0) h).1, x_met (by decide +kernel) rfl rfl rfl (Nat.le_of_ble_eq_true rfl) (w_Current_has h)⟩
theorem d_Current_commonValue_0 : decode b_Current_commonValue 0 = .ok (.ldc2_w 42, 3) := by decide +kernel
theorem d_Current_commonValue_3 : decode b_Current_commonValue 3 = .ok (.lstore_n 1, 1) := by decide +kernel
theorem d_Current_commonValue_4 : decode b_Current_commonValue 4 = .ok (.iconst 0, 1) := by decide +kernel
theorem d_Current_commonValue_5 : decode b_Current_commonValue 5 = .ok (.istore_n 3, 1) := by decide +kernel
theorem d_Current_commonValue_6 : decode b_Current_commonValue 6 = .ok (.iload_n 3, 1) := by decide +kernel
theorem d_Current_commonValue_7 : decode b_Current_commonValue 7 = .ok (.bipush 8, 2) := by decide +kernel
theorem d_Current_commonValue_9 : decode b_Current_commonValue 9 = .ok (.if_icmp .ge 47, 3) := by decide +kernel
theorem d_Current_commonValue_12 : decode b_Current_commonValue 12 = .ok (.aload_n 0, 1) := by decide +kernel
theorem d_Current_commonValue_13 : decode b_Current_commonValue 13 = .ok (.iload_n 3, 1) := by decide +kernel
theorem d_Current_commonValue_14 : decode b_Current_commonValue 14 = .ok (.invokevirtual 38, 3) := by decide +kernel
theorem d_Current_commonValue_17 : decode b_Current_commonValue 17 = .ok (.ifCond .eq 33, 3) := by decide +kernel
theorem d_Current_commonValue_20 : decode b_Current_commonValue 20 = .ok (.lload_n 1, 1) := by decide +kernel
theorem d_Current_commonValue_21 : decode b_Current_commonValue 21 = .ok (.ldc2_w 42, 3) := by decide +kernel
theorem d_Current_commonValue_24 : decode b_Current_commonValue 24 = .ok (.lcmp, 1) := by decide +kernel
theorem d_Current_commonValue_25 : decode b_Current_commonValue 25 = .ok (.ifCond .eq 18, 3) := by decide +kernel
theorem d_Current_commonValue_28 : decode b_Current_commonValue 28 = .ok (.lload_n 1, 1) := by decide +kernel
theorem d_Current_commonValue_29 : decode b_Current_commonValue 29 = .ok (.aload_n 0, 1) := by decide +kernel
theorem d_Current_commonValue_30 : decode b_Current_commonValue 30 = .ok (.getfield 15, 3) := by decide +kernel
theorem d_Current_commonValue_33 : decode b_Current_commonValue 33 = .ok (.iload_n 3, 1) := by decide +kernel
theorem d_Current_commonValue_34 : decode b_Current_commonValue 34 = .ok (.laload, 1) := by decide +kernel
theorem d_Current_commonValue_35 : decode b_Current_commonValue 35 = .ok (.lcmp, 1) := by decide +kernel
theorem d_Current_commonValue_36 : decode b_Current_commonValue 36 = .ok (.ifCond .eq 7, 3) := by decide +kernel
theorem d_Current_commonValue_39 : decode b_Current_commonValue 39 = .ok (.ldc2_w 42, 3) := by decide +kernel
theorem d_Current_commonValue_42 : decode b_Current_commonValue 42 = .ok (.lreturn, 1) := by decide +kernel
theorem d_Current_commonValue_43 : decode b_Current_commonValue 43 = .ok (.aload_n 0, 1) := by decide +kernel
theorem d_Current_commonValue_44 : decode b_Current_commonValue 44 = .ok (.getfield 15, 3) := by decide +kernel
theorem d_Current_commonValue_47 : decode b_Current_commonValue 47 = .ok (.iload_n 3, 1) := by decide +kernel
theorem d_Current_commonValue_48 : decode b_Current_commonValue 48 = .ok (.laload, 1) := by decide +kernel
theorem d_Current_commonValue_49 : decode b_Current_commonValue 49 = .ok (.lstore_n 1, 1) := by decide +kernel
theorem d_Current_commonValue_50 : decode b_Current_commonValue 50 = .ok (.iinc 3 1, 3) := by decide +kernel
theorem d_Current_commonValue_53 : decode b_Current_commonValue 53 = .ok (.goto (-47), 3) := by decide +kernel
theorem d_Current_commonValue_56 : decode b_Current_commonValue 56 = .ok (.lload_n 1, 1) := by decide +kernel
theorem d_Current_commonValue_57 : decode b_Current_commonValue 57 = .ok (.lreturn, 1) := by decide +kernel
def L_Current_commonValue_6 (k39 : gM → Option (Int64 × gM)) (k56 : Int64 → gM → Option (Int64 × gM)) : Nat → Option Nat → Int64 → Int32 → gM → Option (Int64 × gM)
  | 0, _, _, _, _ => none
  | f + 1, p0, p1, p3, mm =>
    if (8 : Int32) ≤ p3 then (
      k56 p1 mm)
    else (
      gb1 (grc 8 p0 mm) fun b5 =>
      gb2 (F_Current_has b5 p3 mm) fun v2 mm3 =>
      if v2 = 0 then (
        gLet (p3 + 1) fun x8 =>
        L_Current_commonValue_6 k39 k56 f p0 p1 x8 mm3)
      else (
        if p1 = (-9223372036854775808 : Int64) then (
          gb1 (gfR 8 1 p0 mm3) fun v10 =>
          gb1 (gaL 1 v10 p3 mm3) fun v12 =>
          gLet (p3 + 1) fun x14 =>
          L_Current_commonValue_6 k39 k56 f p0 v12 x14 mm3)
        else (
          gb1 (gfR 8 1 p0 mm3) fun v15 =>
          gb1 (gaL 1 v15 p3 mm3) fun v17 =>
          if p1 = v17 then (
            gb1 (gfR 8 1 p0 mm3) fun v20 =>
            gb1 (gaL 1 v20 p3 mm3) fun v22 =>
            gLet (p3 + 1) fun x24 =>
            L_Current_commonValue_6 k39 k56 f p0 v22 x24 mm3)
          else (
            k39  mm3))))
set_option maxHeartbeats 4000000 in
set_option maxRecDepth 100000 in
theorem wL_Current_commonValue_6 {l : Launch} {E : gD} {n0 s0 : Nat} {r : Int64} {res : gM} {k39 : gM → Option (Int64 × gM)} {k56 : Int64 → gM → Option (Int64 × gM)} (hk39 : ∀  (mm : gM), k39  mm = some (r, res) → xX l E Y_Current_commonValue n0 s0 (some (.long r)) res 39 [] [] mm) (hk56 : ∀ (p1 : Int64) (mm : gM), k56 p1 mm = some (r, res) → xX l E Y_Current_commonValue n0 s0 (some (.long r)) res 56 [(1, .inr (.inl p1))] [] mm) : ∀ (f : Nat) (p0 : Option Nat) (p1 : Int64) (p3 : Int32) (mm : gM), L_Current_commonValue_6 k39 k56 f p0 p1 p3 mm = some (r, res) → xX l E Y_Current_commonValue n0 s0 (some (.long r)) res 6 [(0, .inr (.inr p0)), (1, .inr (.inl p1)), (3, .inl p3)] [] mm := by
  intro f
  induction f with
  | zero =>
    intro p0 p1 p3 mm h
    rw [L_Current_commonValue_6] at h
    cases h
  | succ f ih =>
    intro p0 p1 p3 mm h
    rw [L_Current_commonValue_6] at h
    refine x_iloadn 6 2 d_Current_commonValue_6 rfl rfl ?_
    refine x_bipush 7 d_Current_commonValue_7 (v := (8 : Int32)) (by decide +kernel) ?_
    refine x_icmp_ge 9 56 d_Current_commonValue_9 (by decide) (fun c1 => ?_) (fun c1 => ?_)
    · replace h := gif_t h c1
      refine x_sub [1] rfl ?_
      exact hk56 _ _ h
    · replace h := gif_f h c1
      refine x_aloadn 12 0 d_Current_commonValue_12 rfl rfl ?_
      refine x_iloadn 13 2 d_Current_commonValue_13 rfl rfl ?_
      replace h := gb1_elim h; obtain ⟨b5, h6, h⟩ := h
      replace h := gb2_elim h; obtain ⟨v2, mm3, h4, h⟩ := h
      refine x_callV 14 1 (as := [.inl p3]) (st' := []) (rs := [.inl v2]) (k_Current_has h4) rfl cf_Current_38 ⟨rfl, by decide +kernel, by decide, by decide, Nat.le_of_ble_eq_true rfl⟩ h6 rfl d_Current_commonValue_14 ?_
      refine x_if_eq 17 50 d_Current_commonValue_17 (by decide) (fun c7 => ?_) (fun c7 => ?_)
      · replace h := gif_t h c7
        replace h := gLet_elim h; obtain ⟨x8, ex8, h⟩ := h
        refine x_iinc 50 2 (v := x8) (lv' := [(3, .inl x8), (0, .inr (.inr p0)), (1, .inr (.inl p1))]) d_Current_commonValue_50 rfl (by rw [ex8]; rfl) (by decide) rfl ?_
        refine x_goto 53 6 d_Current_commonValue_53 (by decide) ?_
        refine x_sub [1, 2, 0] rfl ?_
        exact ih _ _ _ _ h
      · replace h := gif_f h c7
        refine x_lloadn 20 1 d_Current_commonValue_20 rfl rfl ?_
        refine x_ldc2 21 d_Current_commonValue_21 (v := (-9223372036854775808 : Int64)) (gT_in2 28 rfl) ?_
        refine x_lc_eq 24 43 d_Current_commonValue_24 d_Current_commonValue_25 (by decide) (fun c9 => ?_) (fun c9 => ?_)
        · replace h := gif_t h c9
          refine x_aloadn 43 0 d_Current_commonValue_43 rfl rfl ?_
          replace h := gb1_elim h; obtain ⟨v10, h11, h⟩ := h
          refine x_getR 44 h11 fl_Current_15 d_Current_commonValue_44 ?_
          refine x_iloadn 47 2 d_Current_commonValue_47 rfl rfl ?_
          replace h := gb1_elim h; obtain ⟨v12, h13, h⟩ := h
          refine x_lald 48 rfl h13 d_Current_commonValue_48 ?_
          refine x_lstoren 49 (lv' := [(1, .inr (.inl v12)), (0, .inr (.inr p0)), (3, .inl p3)]) d_Current_commonValue_49 rfl (by decide) rfl ?_
          replace h := gLet_elim h; obtain ⟨x14, ex14, h⟩ := h
          refine x_iinc 50 2 (v := x14) (lv' := [(3, .inl x14), (1, .inr (.inl v12)), (0, .inr (.inr p0))]) d_Current_commonValue_50 rfl (by rw [ex14]; rfl) (by decide) rfl ?_
          refine x_goto 53 6 d_Current_commonValue_53 (by decide) ?_
          refine x_sub [2, 1, 0] rfl ?_
          exact ih _ _ _ _ h
        · replace h := gif_f h c9
          refine x_lloadn 28 1 d_Current_commonValue_28 rfl rfl ?_
          refine x_aloadn 29 0 d_Current_commonValue_29 rfl rfl ?_
          replace h := gb1_elim h; obtain ⟨v15, h16, h⟩ := h
          refine x_getR 30 h16 fl_Current_15 d_Current_commonValue_30 ?_
          refine x_iloadn 33 2 d_Current_commonValue_33 rfl rfl ?_
          replace h := gb1_elim h; obtain ⟨v17, h18, h⟩ := h
          refine x_lald 34 rfl h18 d_Current_commonValue_34 ?_
          refine x_lc_eq 35 43 d_Current_commonValue_35 d_Current_commonValue_36 (by decide) (fun c19 => ?_) (fun c19 => ?_)
          · replace h := gif_t h c19
            refine x_aloadn 43 0 d_Current_commonValue_43 rfl rfl ?_
            replace h := gb1_elim h; obtain ⟨v20, h21, h⟩ := h
            refine x_getR 44 h21 fl_Current_15 d_Current_commonValue_44 ?_
            refine x_iloadn 47 2 d_Current_commonValue_47 rfl rfl ?_
            replace h := gb1_elim h; obtain ⟨v22, h23, h⟩ := h
            refine x_lald 48 rfl h23 d_Current_commonValue_48 ?_
            refine x_lstoren 49 (lv' := [(1, .inr (.inl v22)), (0, .inr (.inr p0)), (3, .inl p3)]) d_Current_commonValue_49 rfl (by decide) rfl ?_
            replace h := gLet_elim h; obtain ⟨x24, ex24, h⟩ := h
            refine x_iinc 50 2 (v := x24) (lv' := [(3, .inl x24), (1, .inr (.inl v22)), (0, .inr (.inr p0))]) d_Current_commonValue_50 rfl (by rw [ex24]; rfl) (by decide) rfl ?_
            refine x_goto 53 6 d_Current_commonValue_53 (by decide) ?_
            refine x_sub [2, 1, 0] rfl ?_
            exact ih _ _ _ _ h
          · replace h := gif_f h c19
            refine x_sub [] rfl ?_
            exact hk39 _ h
def F_Current_commonValue (b : Nat) (mm : gM) : Option (Int64 × gM) :=
  L_Current_commonValue_6 (fun  mm =>
    some ((-9223372036854775808 : Int64), mm)) (fun p1 mm =>
    some (p1, mm)) gF (some b) (-9223372036854775808 : Int64) (0 : Int32) mm
set_option maxHeartbeats 8000000 in
set_option maxRecDepth 100000 in
theorem w_Current_commonValue {l : Launch} {E : gD} {n0 s0 : Nat} {b : Nat} {r : Int64} {mm res : gM} (h : F_Current_commonValue b mm = some (r, res)) : xX l E Y_Current_commonValue n0 s0 (some (.long r)) res 0 [(0, .inr (.inr (some b)))] [] mm := by
  unfold F_Current_commonValue at h
  refine x_ldc2 0 d_Current_commonValue_0 (v := (-9223372036854775808 : Int64)) (gT_in2 28 rfl) ?_
  refine x_lstoren 3 (lv' := [(1, .inr (.inl (-9223372036854775808 : Int64))), (0, .inr (.inr (some b)))]) d_Current_commonValue_3 rfl (by decide) rfl ?_
  refine x_iconst 4 d_Current_commonValue_4 (v := (0 : Int32)) (by decide +kernel) ?_
  refine x_istoren 5 (lv' := [(3, .inl (0 : Int32)), (1, .inr (.inl (-9223372036854775808 : Int64))), (0, .inr (.inr (some b)))]) d_Current_commonValue_5 rfl (by decide) rfl ?_
  refine x_sub [2, 1, 0] rfl ?_
  refine wL_Current_commonValue_6 ?_ ?_ gF _ _ _ _ h
  · intro  mm h
    refine x_ldc2 39 d_Current_commonValue_39 (v := (-9223372036854775808 : Int64)) (gT_in2 28 rfl) ?_
    cases h
    exact x_lreturn 42 rfl d_Current_commonValue_42
  · intro p1 mm h
    refine x_lloadn 56 0 d_Current_commonValue_56 rfl rfl ?_
    cases h
    exact x_lreturn 57 rfl d_Current_commonValue_57
theorem k_Current_commonValue {b : Nat} {r : Int64} {mm res : gM} (h : F_Current_commonValue b mm = some (r, res)) : ∀ (l : Launch) (E : gD), gLe mm res ∧ gMet l E Y_Current_commonValue y_Current_commonValue [.inr (.inr (some b))] (some (.long r)) mm res :=
  fun l E => ⟨(w_Current_commonValue (l := l) (E := E) (n0 := 0) (s0 := 0) h).1, x_met (by decide +kernel) rfl rfl rfl (Nat.le_of_ble_eq_true rfl) (w_Current_commonValue h)⟩
theorem d_Holding_hasSettling_0 : decode b_Holding_hasSettling 0 = .ok (.aload_n 0, 1) := by decide +kernel
theorem d_Holding_hasSettling_1 : decode b_Holding_hasSettling 1 = .ok (.getfield 15, 3) := by decide +kernel
theorem d_Holding_hasSettling_4 : decode b_Holding_hasSettling 4 = .ok (.iload_n 1, 1) := by decide +kernel
theorem d_Holding_hasSettling_5 : decode b_Holding_hasSettling 5 = .ok (.lushr, 1) := by decide +kernel
theorem d_Holding_hasSettling_6 : decode b_Holding_hasSettling 6 = .ok (.lconst 1, 1) := by decide +kernel
theorem d_Holding_hasSettling_7 : decode b_Holding_hasSettling 7 = .ok (.land, 1) := by decide +kernel
theorem d_Holding_hasSettling_8 : decode b_Holding_hasSettling 8 = .ok (.lconst 0, 1) := by decide +kernel
theorem d_Holding_hasSettling_9 : decode b_Holding_hasSettling 9 = .ok (.lcmp, 1) := by decide +kernel
theorem d_Holding_hasSettling_10 : decode b_Holding_hasSettling 10 = .ok (.ifCond .eq 7, 3) := by decide +kernel
theorem d_Holding_hasSettling_13 : decode b_Holding_hasSettling 13 = .ok (.iconst 1, 1) := by decide +kernel
theorem d_Holding_hasSettling_14 : decode b_Holding_hasSettling 14 = .ok (.goto 4, 3) := by decide +kernel
theorem d_Holding_hasSettling_17 : decode b_Holding_hasSettling 17 = .ok (.iconst 0, 1) := by decide +kernel
theorem d_Holding_hasSettling_18 : decode b_Holding_hasSettling 18 = .ok (.ireturn, 1) := by decide +kernel
def F_Holding_hasSettling (b : Nat) (a0 : Int32) (mm : gM) : Option (Int32 × gM) :=
  gb1 (gfL 5 1 (some b) mm) fun v1 =>
  if (((v1).toUInt64 >>> ((a0).toInt64.toUInt64 &&& Int64.toUInt64 63)).toInt64 &&& (1 : Int64)) = (0 : Int64) then (
    some ((0 : Int32), mm))
  else (
    some ((1 : Int32), mm))
set_option maxHeartbeats 8000000 in
set_option maxRecDepth 100000 in
theorem w_Holding_hasSettling {l : Launch} {E : gD} {n0 s0 : Nat} {b : Nat} {a0 : Int32} {r : Int32} {mm res : gM} (h : F_Holding_hasSettling b a0 mm = some (r, res)) : xX l E Y_Holding_hasSettling n0 s0 (some (.int r)) res 0 [(0, .inr (.inr (some b))), (1, .inl a0)] [] mm := by
  unfold F_Holding_hasSettling at h
  refine x_aloadn 0 0 d_Holding_hasSettling_0 rfl rfl ?_
  replace h := gb1_elim h; obtain ⟨v1, h2, h⟩ := h
  refine x_getL 1 h2 fl_Holding_15 d_Holding_hasSettling_1 ?_
  refine x_iloadn 4 1 d_Holding_hasSettling_4 rfl rfl ?_
  refine x_lushr 5 d_Holding_hasSettling_5 ?_
  refine x_lconst 6 d_Holding_hasSettling_6 (v := (1 : Int64)) (by decide +kernel) ?_
  refine x_land 7 d_Holding_hasSettling_7 ?_
  refine x_lconst 8 d_Holding_hasSettling_8 (v := (0 : Int64)) (by decide +kernel) ?_
  refine x_lc_eq 9 17 d_Holding_hasSettling_9 d_Holding_hasSettling_10 (by decide) (fun c3 => ?_) (fun c3 => ?_)
  · replace h := gif_t h c3
    refine x_iconst 17 d_Holding_hasSettling_17 (v := (0 : Int32)) (by decide +kernel) ?_
    cases h
    exact x_zreturn 18 (by decide) rfl d_Holding_hasSettling_18
  · replace h := gif_f h c3
    refine x_iconst 13 d_Holding_hasSettling_13 (v := (1 : Int32)) (by decide +kernel) ?_
    refine x_goto 14 18 d_Holding_hasSettling_14 (by decide) ?_
    cases h
    exact x_zreturn 18 (by decide) rfl d_Holding_hasSettling_18
theorem k_Holding_hasSettling {b : Nat} {a0 : Int32} {r : Int32} {mm res : gM} (h : F_Holding_hasSettling b a0 mm = some (r, res)) : ∀ (l : Launch) (E : gD), gLe mm res ∧ gMet l E Y_Holding_hasSettling y_Holding_hasSettling [.inr (.inr (some b)), .inl a0] (some (.int r)) mm res :=
  fun l E => ⟨(w_Holding_hasSettling (l := l) (E := E) (n0 := 0) (s0 := 0) h).1, x_met (by decide +kernel) rfl rfl rfl (Nat.le_of_ble_eq_true rfl) (w_Holding_hasSettling h)⟩
theorem d_Settling_isMadeFor_0 : decode b_Settling_isMadeFor 0 = .ok (.aload_n 0, 1) := by decide +kernel
theorem d_Settling_isMadeFor_1 : decode b_Settling_isMadeFor 1 = .ok (.getfield 9, 3) := by decide +kernel
theorem d_Settling_isMadeFor_4 : decode b_Settling_isMadeFor 4 = .ok (.iload_n 1, 1) := by decide +kernel
theorem d_Settling_isMadeFor_5 : decode b_Settling_isMadeFor 5 = .ok (.if_icmp .eq 5, 3) := by decide +kernel
theorem d_Settling_isMadeFor_8 : decode b_Settling_isMadeFor 8 = .ok (.iconst 0, 1) := by decide +kernel
theorem d_Settling_isMadeFor_9 : decode b_Settling_isMadeFor 9 = .ok (.ireturn, 1) := by decide +kernel
theorem d_Settling_isMadeFor_10 : decode b_Settling_isMadeFor 10 = .ok (.iconst 0, 1) := by decide +kernel
theorem d_Settling_isMadeFor_11 : decode b_Settling_isMadeFor 11 = .ok (.istore_n 3, 1) := by decide +kernel
theorem d_Settling_isMadeFor_12 : decode b_Settling_isMadeFor 12 = .ok (.iload_n 3, 1) := by decide +kernel
theorem d_Settling_isMadeFor_13 : decode b_Settling_isMadeFor 13 = .ok (.bipush 8, 2) := by decide +kernel
theorem d_Settling_isMadeFor_15 : decode b_Settling_isMadeFor 15 = .ok (.if_icmp .ge 26, 3) := by decide +kernel
theorem d_Settling_isMadeFor_18 : decode b_Settling_isMadeFor 18 = .ok (.aload_n 0, 1) := by decide +kernel
theorem d_Settling_isMadeFor_19 : decode b_Settling_isMadeFor 19 = .ok (.getfield 30, 3) := by decide +kernel
theorem d_Settling_isMadeFor_22 : decode b_Settling_isMadeFor 22 = .ok (.iload_n 3, 1) := by decide +kernel
theorem d_Settling_isMadeFor_23 : decode b_Settling_isMadeFor 23 = .ok (.iaload, 1) := by decide +kernel
theorem d_Settling_isMadeFor_24 : decode b_Settling_isMadeFor 24 = .ok (.aload_n 2, 1) := by decide +kernel
theorem d_Settling_isMadeFor_25 : decode b_Settling_isMadeFor 25 = .ok (.getfield 18, 3) := by decide +kernel
theorem d_Settling_isMadeFor_28 : decode b_Settling_isMadeFor 28 = .ok (.iload_n 3, 1) := by decide +kernel
theorem d_Settling_isMadeFor_29 : decode b_Settling_isMadeFor 29 = .ok (.iaload, 1) := by decide +kernel
theorem d_Settling_isMadeFor_30 : decode b_Settling_isMadeFor 30 = .ok (.if_icmp .eq 5, 3) := by decide +kernel
theorem d_Settling_isMadeFor_33 : decode b_Settling_isMadeFor 33 = .ok (.iconst 0, 1) := by decide +kernel
theorem d_Settling_isMadeFor_34 : decode b_Settling_isMadeFor 34 = .ok (.ireturn, 1) := by decide +kernel
theorem d_Settling_isMadeFor_35 : decode b_Settling_isMadeFor 35 = .ok (.iinc 3 1, 3) := by decide +kernel
theorem d_Settling_isMadeFor_38 : decode b_Settling_isMadeFor 38 = .ok (.goto (-26), 3) := by decide +kernel
theorem d_Settling_isMadeFor_41 : decode b_Settling_isMadeFor 41 = .ok (.iconst 1, 1) := by decide +kernel
theorem d_Settling_isMadeFor_42 : decode b_Settling_isMadeFor 42 = .ok (.ireturn, 1) := by decide +kernel
def L_Settling_isMadeFor_12 (k33 : gM → Option (Int32 × gM)) (k41 : gM → Option (Int32 × gM)) : Nat → Option Nat → Option Nat → Int32 → gM → Option (Int32 × gM)
  | 0, _, _, _, _ => none
  | f + 1, p0, p2, p3, mm =>
    if (8 : Int32) ≤ p3 then (
      k41  mm)
    else (
      gb1 (gfR 6 2 p0 mm) fun v5 =>
      gb1 (gaI 0 v5 p3 mm) fun v7 =>
      gb1 (gfR 8 0 p2 mm) fun v9 =>
      gb1 (gaI 0 v9 p3 mm) fun v11 =>
      if v7 = v11 then (
        gLet (p3 + 1) fun x14 =>
        L_Settling_isMadeFor_12 k33 k41 f p0 p2 x14 mm)
      else (
        k33  mm))
set_option maxHeartbeats 4000000 in
set_option maxRecDepth 100000 in
theorem wL_Settling_isMadeFor_12 {l : Launch} {E : gD} {n0 s0 : Nat} {r : Int32} {res : gM} {k33 : gM → Option (Int32 × gM)} {k41 : gM → Option (Int32 × gM)} (hk33 : ∀  (mm : gM), k33  mm = some (r, res) → xX l E Y_Settling_isMadeFor n0 s0 (some (.int r)) res 33 [] [] mm) (hk41 : ∀  (mm : gM), k41  mm = some (r, res) → xX l E Y_Settling_isMadeFor n0 s0 (some (.int r)) res 41 [] [] mm) : ∀ (f : Nat) (p0 : Option Nat) (p2 : Option Nat) (p3 : Int32) (mm : gM), L_Settling_isMadeFor_12 k33 k41 f p0 p2 p3 mm = some (r, res) → xX l E Y_Settling_isMadeFor n0 s0 (some (.int r)) res 12 [(0, .inr (.inr p0)), (2, .inr (.inr p2)), (3, .inl p3)] [] mm := by
  intro f
  induction f with
  | zero =>
    intro p0 p2 p3 mm h
    rw [L_Settling_isMadeFor_12] at h
    cases h
  | succ f ih =>
    intro p0 p2 p3 mm h
    rw [L_Settling_isMadeFor_12] at h
    refine x_iloadn 12 2 d_Settling_isMadeFor_12 rfl rfl ?_
    refine x_bipush 13 d_Settling_isMadeFor_13 (v := (8 : Int32)) (by decide +kernel) ?_
    refine x_icmp_ge 15 41 d_Settling_isMadeFor_15 (by decide) (fun c4 => ?_) (fun c4 => ?_)
    · replace h := gif_t h c4
      refine x_sub [] rfl ?_
      exact hk41 _ h
    · replace h := gif_f h c4
      refine x_aloadn 18 0 d_Settling_isMadeFor_18 rfl rfl ?_
      replace h := gb1_elim h; obtain ⟨v5, h6, h⟩ := h
      refine x_getR 19 h6 fl_Settling_30 d_Settling_isMadeFor_19 ?_
      refine x_iloadn 22 2 d_Settling_isMadeFor_22 rfl rfl ?_
      replace h := gb1_elim h; obtain ⟨v7, h8, h⟩ := h
      refine x_iald 23 rfl h8 d_Settling_isMadeFor_23 ?_
      refine x_aloadn 24 1 d_Settling_isMadeFor_24 rfl rfl ?_
      replace h := gb1_elim h; obtain ⟨v9, h10, h⟩ := h
      refine x_getR 25 h10 fl_Settling_18 d_Settling_isMadeFor_25 ?_
      refine x_iloadn 28 2 d_Settling_isMadeFor_28 rfl rfl ?_
      replace h := gb1_elim h; obtain ⟨v11, h12, h⟩ := h
      refine x_iald 29 rfl h12 d_Settling_isMadeFor_29 ?_
      refine x_icmp_eq 30 35 d_Settling_isMadeFor_30 (by decide) (fun c13 => ?_) (fun c13 => ?_)
      · replace h := gif_t h c13
        replace h := gLet_elim h; obtain ⟨x14, ex14, h⟩ := h
        refine x_iinc 35 2 (v := x14) (lv' := [(3, .inl x14), (0, .inr (.inr p0)), (2, .inr (.inr p2))]) d_Settling_isMadeFor_35 rfl (by rw [ex14]; rfl) (by decide) rfl ?_
        refine x_goto 38 12 d_Settling_isMadeFor_38 (by decide) ?_
        refine x_sub [1, 2, 0] rfl ?_
        exact ih _ _ _ _ h
      · replace h := gif_f h c13
        refine x_sub [] rfl ?_
        exact hk33 _ h
def F_Settling_isMadeFor (b : Nat) (a0 : Int32) (a1 : Option Nat) (mm : gM) : Option (Int32 × gM) :=
  gb1 (gfI 6 0 (some b) mm) fun v1 =>
  if v1 = a0 then (
    L_Settling_isMadeFor_12 (fun  mm =>
      some ((0 : Int32), mm)) (fun  mm =>
      some ((1 : Int32), mm)) gF (some b) a1 (0 : Int32) mm)
  else (
    some ((0 : Int32), mm))
set_option maxHeartbeats 8000000 in
set_option maxRecDepth 100000 in
theorem w_Settling_isMadeFor {l : Launch} {E : gD} {n0 s0 : Nat} {b : Nat} {a0 : Int32} {a1 : Option Nat} {r : Int32} {mm res : gM} (h : F_Settling_isMadeFor b a0 a1 mm = some (r, res)) : xX l E Y_Settling_isMadeFor n0 s0 (some (.int r)) res 0 [(0, .inr (.inr (some b))), (1, .inl a0), (2, .inr (.inr a1))] [] mm := by
  unfold F_Settling_isMadeFor at h
  refine x_aloadn 0 0 d_Settling_isMadeFor_0 rfl rfl ?_
  replace h := gb1_elim h; obtain ⟨v1, h2, h⟩ := h
  refine x_getI 1 h2 fl_Settling_9 d_Settling_isMadeFor_1 ?_
  refine x_iloadn 4 1 d_Settling_isMadeFor_4 rfl rfl ?_
  refine x_icmp_eq 5 10 d_Settling_isMadeFor_5 (by decide) (fun c3 => ?_) (fun c3 => ?_)
  · replace h := gif_t h c3
    refine x_iconst 10 d_Settling_isMadeFor_10 (v := (0 : Int32)) (by decide +kernel) ?_
    refine x_istoren 11 (lv' := [(3, .inl (0 : Int32)), (0, .inr (.inr (some b))), (1, .inl a0), (2, .inr (.inr a1))]) d_Settling_isMadeFor_11 rfl (by decide) rfl ?_
    refine x_sub [1, 3, 0] rfl ?_
    refine wL_Settling_isMadeFor_12 ?_ ?_ gF _ _ _ _ h
    · intro  mm h
      refine x_iconst 33 d_Settling_isMadeFor_33 (v := (0 : Int32)) (by decide +kernel) ?_
      cases h
      exact x_zreturn 34 (by decide) rfl d_Settling_isMadeFor_34
    · intro  mm h
      refine x_iconst 41 d_Settling_isMadeFor_41 (v := (1 : Int32)) (by decide +kernel) ?_
      cases h
      exact x_zreturn 42 (by decide) rfl d_Settling_isMadeFor_42
  · replace h := gif_f h c3
    refine x_iconst 8 d_Settling_isMadeFor_8 (v := (0 : Int32)) (by decide +kernel) ?_
    cases h
    exact x_zreturn 9 (by decide) rfl d_Settling_isMadeFor_9
theorem k_Settling_isMadeFor {b : Nat} {a0 : Int32} {a1 : Option Nat} {r : Int32} {mm res : gM} (h : F_Settling_isMadeFor b a0 a1 mm = some (r, res)) : ∀ (l : Launch) (E : gD), gLe mm res ∧ gMet l E Y_Settling_isMadeFor y_Settling_isMadeFor [.inr (.inr (some b)), .inl a0, .inr (.inr a1)] (some (.int r)) mm res :=
  fun l E => ⟨(w_Settling_isMadeFor (l := l) (E := E) (n0 := 0) (s0 := 0) h).1, x_met (by decide +kernel) rfl rfl rfl (Nat.le_of_ble_eq_true rfl) (w_Settling_isMadeFor h)⟩
theorem d_Current_valueBy_0 : decode b_Current_valueBy 0 = .ok (.aload_n 0, 1) := by decide +kernel
theorem d_Current_valueBy_1 : decode b_Current_valueBy 1 = .ok (.iload_n 1, 1) := by decide +kernel
theorem d_Current_valueBy_2 : decode b_Current_valueBy 2 = .ok (.invokevirtual 38, 3) := by decide +kernel
theorem d_Current_valueBy_5 : decode b_Current_valueBy 5 = .ok (.ifCond .eq 12, 3) := by decide +kernel
theorem d_Current_valueBy_8 : decode b_Current_valueBy 8 = .ok (.aload_n 0, 1) := by decide +kernel
theorem d_Current_valueBy_9 : decode b_Current_valueBy 9 = .ok (.getfield 15, 3) := by decide +kernel
theorem d_Current_valueBy_12 : decode b_Current_valueBy 12 = .ok (.iload_n 1, 1) := by decide +kernel
theorem d_Current_valueBy_13 : decode b_Current_valueBy 13 = .ok (.laload, 1) := by decide +kernel
theorem d_Current_valueBy_14 : decode b_Current_valueBy 14 = .ok (.goto 6, 3) := by decide +kernel
theorem d_Current_valueBy_17 : decode b_Current_valueBy 17 = .ok (.ldc2_w 42, 3) := by decide +kernel
theorem d_Current_valueBy_20 : decode b_Current_valueBy 20 = .ok (.lreturn, 1) := by decide +kernel
def F_Current_valueBy (b : Nat) (a0 : Int32) (mm : gM) : Option (Int64 × gM) :=
  gb1 (grc 8 (some b) mm) fun b4 =>
  gb2 (F_Current_has b4 a0 mm) fun v1 mm2 =>
  if v1 = 0 then (
    some ((-9223372036854775808 : Int64), mm2))
  else (
    gb1 (gfR 8 1 (some b) mm2) fun v7 =>
    gb1 (gaL 1 v7 a0 mm2) fun v9 =>
    some (v9, mm2))
set_option maxHeartbeats 8000000 in
set_option maxRecDepth 100000 in
theorem w_Current_valueBy {l : Launch} {E : gD} {n0 s0 : Nat} {b : Nat} {a0 : Int32} {r : Int64} {mm res : gM} (h : F_Current_valueBy b a0 mm = some (r, res)) : xX l E Y_Current_valueBy n0 s0 (some (.long r)) res 0 [(0, .inr (.inr (some b))), (1, .inl a0)] [] mm := by
  unfold F_Current_valueBy at h
  refine x_aloadn 0 0 d_Current_valueBy_0 rfl rfl ?_
  refine x_iloadn 1 1 d_Current_valueBy_1 rfl rfl ?_
  replace h := gb1_elim h; obtain ⟨b4, h5, h⟩ := h
  replace h := gb2_elim h; obtain ⟨v1, mm2, h3, h⟩ := h
  refine x_callV 2 1 (as := [.inl a0]) (st' := []) (rs := [.inl v1]) (k_Current_has h3) rfl cf_Current_38 ⟨rfl, by decide +kernel, by decide, by decide, Nat.le_of_ble_eq_true rfl⟩ h5 rfl d_Current_valueBy_2 ?_
  refine x_if_eq 5 17 d_Current_valueBy_5 (by decide) (fun c6 => ?_) (fun c6 => ?_)
  · replace h := gif_t h c6
    refine x_ldc2 17 d_Current_valueBy_17 (v := (-9223372036854775808 : Int64)) (gT_in2 28 rfl) ?_
    cases h
    exact x_lreturn 20 rfl d_Current_valueBy_20
  · replace h := gif_f h c6
    refine x_aloadn 8 0 d_Current_valueBy_8 rfl rfl ?_
    replace h := gb1_elim h; obtain ⟨v7, h8, h⟩ := h
    refine x_getR 9 h8 fl_Current_15 d_Current_valueBy_9 ?_
    refine x_iloadn 12 1 d_Current_valueBy_12 rfl rfl ?_
    replace h := gb1_elim h; obtain ⟨v9, h10, h⟩ := h
    refine x_lald 13 rfl h10 d_Current_valueBy_13 ?_
    refine x_goto 14 20 d_Current_valueBy_14 (by decide) ?_
    cases h
    exact x_lreturn 20 rfl d_Current_valueBy_20
theorem k_Current_valueBy {b : Nat} {a0 : Int32} {r : Int64} {mm res : gM} (h : F_Current_valueBy b a0 mm = some (r, res)) : ∀ (l : Launch) (E : gD), gLe mm res ∧ gMet l E Y_Current_valueBy y_Current_valueBy [.inr (.inr (some b)), .inl a0] (some (.long r)) mm res :=
  fun l E => ⟨(w_Current_valueBy (l := l) (E := E) (n0 := 0) (s0 := 0) h).1, x_met (by decide +kernel) rfl rfl rfl (Nat.le_of_ble_eq_true rfl) (w_Current_valueBy h)⟩
