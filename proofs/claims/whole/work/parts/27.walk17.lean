-- S_block M_inBlock M_block
theorem d_S_block_0 : decode b_S_block 0 = .ok (.aload_n 0, 1) := by decide +kernel
theorem d_S_block_1 : decode b_S_block 1 = .ok (.iload_n 1, 1) := by decide +kernel
theorem d_S_block_2 : decode b_S_block 2 = .ok (.invokevirtual 56, 3) := by decide +kernel
theorem d_S_block_5 : decode b_S_block 5 = .ok (.astore 4, 2) := by decide +kernel
theorem d_S_block_7 : decode b_S_block 7 = .ok (.aload 4, 2) := by decide +kernel
theorem d_S_block_9 : decode b_S_block 9 = .ok (.ifnull 22, 3) := by decide +kernel
theorem d_S_block_12 : decode b_S_block 12 = .ok (.iload_n 2, 1) := by decide +kernel
theorem d_S_block_13 : decode b_S_block 13 = .ok (.invokestatic 64, 3) := by decide +kernel
theorem d_S_block_16 : decode b_S_block 16 = .ok (.ifCond .eq 15, 3) := by decide +kernel
theorem d_S_block_19 : decode b_S_block 19 = .ok (.iload_n 3, 1) := by decide +kernel
theorem d_S_block_20 : decode b_S_block 20 = .ok (.invokestatic 64, 3) := by decide +kernel
theorem d_S_block_23 : decode b_S_block 23 = .ok (.ifCond .eq 8, 3) := by decide +kernel
theorem d_S_block_26 : decode b_S_block 26 = .ok (.iload_n 3, 1) := by decide +kernel
theorem d_S_block_27 : decode b_S_block 27 = .ok (.iload_n 2, 1) := by decide +kernel
theorem d_S_block_28 : decode b_S_block 28 = .ok (.if_icmp .ge 5, 3) := by decide +kernel
theorem d_S_block_31 : decode b_S_block 31 = .ok (.iconst 0, 1) := by decide +kernel
theorem d_S_block_32 : decode b_S_block 32 = .ok (.ireturn, 1) := by decide +kernel
theorem d_S_block_33 : decode b_S_block 33 = .ok (.aload 4, 2) := by decide +kernel
theorem d_S_block_35 : decode b_S_block 35 = .ok (.getfield 171, 3) := by decide +kernel
theorem d_S_block_38 : decode b_S_block 38 = .ok (.iload_n 2, 1) := by decide +kernel
theorem d_S_block_39 : decode b_S_block 39 = .ok (.iload_n 3, 1) := by decide +kernel
theorem d_S_block_40 : decode b_S_block 40 = .ok (.invokevirtual 175, 3) := by decide +kernel
theorem d_S_block_43 : decode b_S_block 43 = .ok (.ireturn, 1) := by decide +kernel
def F_S_block (b : Nat) (a0 : Int32) (a1 : Int32) (a2 : Int32) (mm : gM) : Option (Int32 × gM) :=
  gb1 (grc 0 (some b) mm) fun b4 =>
  gb2 (F_S_tellerAt b4 a0 mm) fun v1 mm2 =>
  if v1 = none then (
    some ((0 : Int32), mm2))
  else (
    gb2 (F_S_isNumber a1 mm2) fun v7 mm8 =>
    if v7 = 0 then (
      some ((0 : Int32), mm8))
    else (
      gb2 (F_S_isNumber a2 mm8) fun v11 mm12 =>
      if v11 = 0 then (
        some ((0 : Int32), mm12))
      else (
        if a1 ≤ a2 then (
          gb1 (gfR 1 1 v1 mm12) fun v16 =>
          gb1 (grc 2 v16 mm12) fun b21 =>
          gb2 (F_Blocks_add b21 a1 a2 mm12) fun v18 mm19 =>
          gIf (v18 = 0 ∨ v18 = 1) (some (v18, mm19)))
        else (
          some ((0 : Int32), mm12)))))
set_option maxHeartbeats 8000000 in
set_option maxRecDepth 100000 in
theorem w_S_block {l : Launch} {E : gD} {n0 s0 : Nat} {b : Nat} {a0 : Int32} {a1 : Int32} {a2 : Int32} {r : Int32} {mm res : gM} (h : F_S_block b a0 a1 a2 mm = some (r, res)) : xX l E Y_S_block n0 s0 (some (.int r)) res 0 [(0, .inr (.inr (some b))), (1, .inl a0), (2, .inl a1), (3, .inl a2)] [] mm := by
  unfold F_S_block at h
  refine x_aloadn 0 0 d_S_block_0 rfl rfl ?_
  refine x_iloadn 1 1 d_S_block_1 rfl rfl ?_
  replace h := gb1_elim h; obtain ⟨b4, h5, h⟩ := h
  replace h := gb2_elim h; obtain ⟨v1, mm2, h3, h⟩ := h
  refine x_callV 2 1 (as := [.inl a0]) (st' := []) (rs := [.inr (.inr v1)]) (k_S_tellerAt h3) rfl cf_S_56 ⟨rfl, by decide +kernel, by decide, by decide, Nat.le_of_ble_eq_true rfl⟩ h5 rfl d_S_block_2 ?_
  refine x_astore 5 (lv' := [(4, .inr (.inr v1)), (0, .inr (.inr (some b))), (1, .inl a0), (2, .inl a1), (3, .inl a2)]) d_S_block_5 (by decide) rfl ?_
  refine x_aload 7 0 d_S_block_7 rfl ?_
  refine x_ifnull 9 31 d_S_block_9 (by decide) (fun c6 => ?_) (fun c6 => ?_)
  · replace h := gif_t h c6
    refine x_iconst 31 d_S_block_31 (v := (0 : Int32)) (by decide +kernel) ?_
    cases h
    exact x_zreturn 32 (by decide) rfl d_S_block_32
  · replace h := gif_f h c6
    refine x_iloadn 12 3 d_S_block_12 rfl rfl ?_
    replace h := gb2_elim h; obtain ⟨v7, mm8, h9, h⟩ := h
    refine x_callS 13 1 (as := [.inl a1]) (st' := []) (rs := [.inl v7]) (k_S_isNumber h9) rfl cf_S_64 ⟨rfl, by decide +kernel, by decide, by decide, Nat.le_of_ble_eq_true rfl⟩ rfl d_S_block_13 ?_
    refine x_if_eq 16 31 d_S_block_16 (by decide) (fun c10 => ?_) (fun c10 => ?_)
    · replace h := gif_t h c10
      refine x_iconst 31 d_S_block_31 (v := (0 : Int32)) (by decide +kernel) ?_
      cases h
      exact x_zreturn 32 (by decide) rfl d_S_block_32
    · replace h := gif_f h c10
      refine x_iloadn 19 4 d_S_block_19 rfl rfl ?_
      replace h := gb2_elim h; obtain ⟨v11, mm12, h13, h⟩ := h
      refine x_callS 20 1 (as := [.inl a2]) (st' := []) (rs := [.inl v11]) (k_S_isNumber h13) rfl cf_S_64 ⟨rfl, by decide +kernel, by decide, by decide, Nat.le_of_ble_eq_true rfl⟩ rfl d_S_block_20 ?_
      refine x_if_eq 23 31 d_S_block_23 (by decide) (fun c14 => ?_) (fun c14 => ?_)
      · replace h := gif_t h c14
        refine x_iconst 31 d_S_block_31 (v := (0 : Int32)) (by decide +kernel) ?_
        cases h
        exact x_zreturn 32 (by decide) rfl d_S_block_32
      · replace h := gif_f h c14
        refine x_iloadn 26 4 d_S_block_26 rfl rfl ?_
        refine x_iloadn 27 3 d_S_block_27 rfl rfl ?_
        refine x_icmp_ge 28 33 d_S_block_28 (by decide) (fun c15 => ?_) (fun c15 => ?_)
        · replace h := gif_t h c15
          refine x_aload 33 0 d_S_block_33 rfl ?_
          replace h := gb1_elim h; obtain ⟨v16, h17, h⟩ := h
          refine x_getR 35 h17 fl_S_171 d_S_block_35 ?_
          refine x_iloadn 38 3 d_S_block_38 rfl rfl ?_
          refine x_iloadn 39 4 d_S_block_39 rfl rfl ?_
          replace h := gb1_elim h; obtain ⟨b21, h22, h⟩ := h
          replace h := gb2_elim h; obtain ⟨v18, mm19, h20, h⟩ := h
          refine x_callV 40 2 (as := [.inl a1, .inl a2]) (st' := []) (rs := [.inl v18]) (k_Blocks_add h20) rfl cf_S_175 ⟨rfl, by decide +kernel, by decide, by decide, Nat.le_of_ble_eq_true rfl⟩ h22 rfl d_S_block_40 ?_
          replace h := gIf_elim h; obtain ⟨c23, h⟩ := h
          cases h
          exact x_zreturn 43 c23 rfl d_S_block_43
        · replace h := gif_f h c15
          refine x_iconst 31 d_S_block_31 (v := (0 : Int32)) (by decide +kernel) ?_
          cases h
          exact x_zreturn 32 (by decide) rfl d_S_block_32
theorem k_S_block {b : Nat} {a0 : Int32} {a1 : Int32} {a2 : Int32} {r : Int32} {mm res : gM} (h : F_S_block b a0 a1 a2 mm = some (r, res)) : ∀ (l : Launch) (E : gD), gLe mm res ∧ gMet l E Y_S_block y_S_block [.inr (.inr (some b)), .inl a0, .inl a1, .inl a2] (some (.int r)) mm res :=
  fun l E => ⟨(w_S_block (l := l) (E := E) (n0 := 0) (s0 := 0) h).1, x_met (by decide +kernel) rfl rfl rfl (Nat.le_of_ble_eq_true rfl) (w_S_block h)⟩
theorem d_M_inBlock_0 : decode b_M_inBlock 0 = .ok (.iconst 0, 1) := by decide +kernel
theorem d_M_inBlock_1 : decode b_M_inBlock 1 = .ok (.istore_n 3, 1) := by decide +kernel
theorem d_M_inBlock_2 : decode b_M_inBlock 2 = .ok (.iconst 0, 1) := by decide +kernel
theorem d_M_inBlock_3 : decode b_M_inBlock 3 = .ok (.istore 4, 2) := by decide +kernel
theorem d_M_inBlock_5 : decode b_M_inBlock 5 = .ok (.iload 4, 2) := by decide +kernel
theorem d_M_inBlock_7 : decode b_M_inBlock 7 = .ok (.aload_n 0, 1) := by decide +kernel
theorem d_M_inBlock_8 : decode b_M_inBlock 8 = .ok (.getfield 57, 3) := by decide +kernel
theorem d_M_inBlock_11 : decode b_M_inBlock 11 = .ok (.iload_n 1, 1) := by decide +kernel
theorem d_M_inBlock_12 : decode b_M_inBlock 12 = .ok (.iaload, 1) := by decide +kernel
theorem d_M_inBlock_13 : decode b_M_inBlock 13 = .ok (.if_icmp .ge 51, 3) := by decide +kernel
theorem d_M_inBlock_16 : decode b_M_inBlock 16 = .ok (.iload_n 3, 1) := by decide +kernel
theorem d_M_inBlock_17 : decode b_M_inBlock 17 = .ok (.ifCond .ne 35, 3) := by decide +kernel
theorem d_M_inBlock_20 : decode b_M_inBlock 20 = .ok (.iload_n 2, 1) := by decide +kernel
theorem d_M_inBlock_21 : decode b_M_inBlock 21 = .ok (.aload_n 0, 1) := by decide +kernel
theorem d_M_inBlock_22 : decode b_M_inBlock 22 = .ok (.getfield 60, 3) := by decide +kernel
theorem d_M_inBlock_25 : decode b_M_inBlock 25 = .ok (.bipush 6, 2) := by decide +kernel
theorem d_M_inBlock_27 : decode b_M_inBlock 27 = .ok (.iload_n 1, 1) := by decide +kernel
theorem d_M_inBlock_28 : decode b_M_inBlock 28 = .ok (.imul, 1) := by decide +kernel
theorem d_M_inBlock_29 : decode b_M_inBlock 29 = .ok (.iload 4, 2) := by decide +kernel
theorem d_M_inBlock_31 : decode b_M_inBlock 31 = .ok (.iadd, 1) := by decide +kernel
theorem d_M_inBlock_32 : decode b_M_inBlock 32 = .ok (.iaload, 1) := by decide +kernel
theorem d_M_inBlock_33 : decode b_M_inBlock 33 = .ok (.if_icmp .lt 23, 3) := by decide +kernel
theorem d_M_inBlock_36 : decode b_M_inBlock 36 = .ok (.iload_n 2, 1) := by decide +kernel
theorem d_M_inBlock_37 : decode b_M_inBlock 37 = .ok (.aload_n 0, 1) := by decide +kernel
theorem d_M_inBlock_38 : decode b_M_inBlock 38 = .ok (.getfield 63, 3) := by decide +kernel
theorem d_M_inBlock_41 : decode b_M_inBlock 41 = .ok (.bipush 6, 2) := by decide +kernel
theorem d_M_inBlock_43 : decode b_M_inBlock 43 = .ok (.iload_n 1, 1) := by decide +kernel
theorem d_M_inBlock_44 : decode b_M_inBlock 44 = .ok (.imul, 1) := by decide +kernel
theorem d_M_inBlock_45 : decode b_M_inBlock 45 = .ok (.iload 4, 2) := by decide +kernel
theorem d_M_inBlock_47 : decode b_M_inBlock 47 = .ok (.iadd, 1) := by decide +kernel
theorem d_M_inBlock_48 : decode b_M_inBlock 48 = .ok (.iaload, 1) := by decide +kernel
theorem d_M_inBlock_49 : decode b_M_inBlock 49 = .ok (.if_icmp .gt 7, 3) := by decide +kernel
theorem d_M_inBlock_52 : decode b_M_inBlock 52 = .ok (.iconst 1, 1) := by decide +kernel
theorem d_M_inBlock_53 : decode b_M_inBlock 53 = .ok (.goto 4, 3) := by decide +kernel
theorem d_M_inBlock_56 : decode b_M_inBlock 56 = .ok (.iconst 0, 1) := by decide +kernel
theorem d_M_inBlock_57 : decode b_M_inBlock 57 = .ok (.istore_n 3, 1) := by decide +kernel
theorem d_M_inBlock_58 : decode b_M_inBlock 58 = .ok (.iinc 4 1, 3) := by decide +kernel
theorem d_M_inBlock_61 : decode b_M_inBlock 61 = .ok (.goto (-56), 3) := by decide +kernel
theorem d_M_inBlock_64 : decode b_M_inBlock 64 = .ok (.iload_n 3, 1) := by decide +kernel
theorem d_M_inBlock_65 : decode b_M_inBlock 65 = .ok (.ireturn, 1) := by decide +kernel
def L_M_inBlock_5 (k64 : Int32 → gM → Option (Int32 × gM)) : Nat → Option Nat → Int32 → Int32 → Int32 → Int32 → gM → Option (Int32 × gM)
  | 0, _, _, _, _, _, _ => none
  | f + 1, p0, p1, p2, p3, p4, mm =>
    gb1 (gfR 10 19 p0 mm) fun v1 =>
    gb1 (gaI 0 v1 p1 mm) fun v3 =>
    if v3 ≤ p4 then (
      k64 p3 mm)
    else (
      if p3 = 0 then (
        gb1 (gfR 10 20 p0 mm) fun v7 =>
        gb1 (gaI 0 v7 (((6 : Int32) * p1) + p4) mm) fun v9 =>
        if p2 < v9 then (
          gLet (p4 + 1) fun x12 =>
          L_M_inBlock_5 k64 f p0 p1 p2 (0 : Int32) x12 mm)
        else (
          gb1 (gfR 10 21 p0 mm) fun v13 =>
          gb1 (gaI 0 v13 (((6 : Int32) * p1) + p4) mm) fun v15 =>
          if v15 < p2 then (
            gLet (p4 + 1) fun x18 =>
            L_M_inBlock_5 k64 f p0 p1 p2 (0 : Int32) x18 mm)
          else (
            gLet (p4 + 1) fun x19 =>
            L_M_inBlock_5 k64 f p0 p1 p2 (1 : Int32) x19 mm)))
      else (
        gLet (p4 + 1) fun x20 =>
        L_M_inBlock_5 k64 f p0 p1 p2 (1 : Int32) x20 mm))
set_option maxHeartbeats 4000000 in
set_option maxRecDepth 100000 in
theorem wL_M_inBlock_5 {l : Launch} {E : gD} {n0 s0 : Nat} {r : Int32} {res : gM} {k64 : Int32 → gM → Option (Int32 × gM)} (hk64 : ∀ (p3 : Int32) (mm : gM), k64 p3 mm = some (r, res) → xX l E Y_M_inBlock n0 s0 (some (.int r)) res 64 [(3, .inl p3)] [] mm) : ∀ (f : Nat) (p0 : Option Nat) (p1 : Int32) (p2 : Int32) (p3 : Int32) (p4 : Int32) (mm : gM), L_M_inBlock_5 k64 f p0 p1 p2 p3 p4 mm = some (r, res) → xX l E Y_M_inBlock n0 s0 (some (.int r)) res 5 [(0, .inr (.inr p0)), (1, .inl p1), (2, .inl p2), (3, .inl p3), (4, .inl p4)] [] mm := by
  intro f
  induction f with
  | zero =>
    intro p0 p1 p2 p3 p4 mm h
    rw [L_M_inBlock_5] at h
    cases h
  | succ f ih =>
    intro p0 p1 p2 p3 p4 mm h
    rw [L_M_inBlock_5] at h
    refine x_iload 5 4 d_M_inBlock_5 rfl ?_
    refine x_aloadn 7 0 d_M_inBlock_7 rfl rfl ?_
    replace h := gb1_elim h; obtain ⟨v1, h2, h⟩ := h
    refine x_getR 8 h2 fl_M_57 d_M_inBlock_8 ?_
    refine x_iloadn 11 1 d_M_inBlock_11 rfl rfl ?_
    replace h := gb1_elim h; obtain ⟨v3, h4, h⟩ := h
    refine x_iald 12 rfl h4 d_M_inBlock_12 ?_
    refine x_icmp_ge 13 64 d_M_inBlock_13 (by decide) (fun c5 => ?_) (fun c5 => ?_)
    · replace h := gif_t h c5
      refine x_sub [3] rfl ?_
      exact hk64 _ _ h
    · replace h := gif_f h c5
      refine x_iloadn 16 3 d_M_inBlock_16 rfl rfl ?_
      refine x_if_ne 17 52 d_M_inBlock_17 (by decide) (fun c6 => ?_) (fun c6 => ?_)
      · replace h := gif_t h c6
        refine x_iloadn 20 2 d_M_inBlock_20 rfl rfl ?_
        refine x_aloadn 21 0 d_M_inBlock_21 rfl rfl ?_
        replace h := gb1_elim h; obtain ⟨v7, h8, h⟩ := h
        refine x_getR 22 h8 fl_M_60 d_M_inBlock_22 ?_
        refine x_bipush 25 d_M_inBlock_25 (v := (6 : Int32)) (by decide +kernel) ?_
        refine x_iloadn 27 1 d_M_inBlock_27 rfl rfl ?_
        refine x_imul 28 d_M_inBlock_28 ?_
        refine x_iload 29 4 d_M_inBlock_29 rfl ?_
        refine x_iadd 31 d_M_inBlock_31 ?_
        replace h := gb1_elim h; obtain ⟨v9, h10, h⟩ := h
        refine x_iald 32 rfl h10 d_M_inBlock_32 ?_
        refine x_icmp_lt 33 56 d_M_inBlock_33 (by decide) (fun c11 => ?_) (fun c11 => ?_)
        · replace h := gif_t h c11
          refine x_iconst 56 d_M_inBlock_56 (v := (0 : Int32)) (by decide +kernel) ?_
          refine x_istoren 57 (lv' := [(3, .inl (0 : Int32)), (0, .inr (.inr p0)), (1, .inl p1), (2, .inl p2), (4, .inl p4)]) d_M_inBlock_57 rfl (by decide) rfl ?_
          replace h := gLet_elim h; obtain ⟨x12, ex12, h⟩ := h
          refine x_iinc 58 4 (v := x12) (lv' := [(4, .inl x12), (3, .inl (0 : Int32)), (0, .inr (.inr p0)), (1, .inl p1), (2, .inl p2)]) d_M_inBlock_58 rfl (by rw [ex12]; rfl) (by decide) rfl ?_
          refine x_goto 61 5 d_M_inBlock_61 (by decide) ?_
          refine x_sub [2, 3, 4, 1, 0] rfl ?_
          exact ih _ _ _ _ _ _ h
        · replace h := gif_f h c11
          refine x_iloadn 36 2 d_M_inBlock_36 rfl rfl ?_
          refine x_aloadn 37 0 d_M_inBlock_37 rfl rfl ?_
          replace h := gb1_elim h; obtain ⟨v13, h14, h⟩ := h
          refine x_getR 38 h14 fl_M_63 d_M_inBlock_38 ?_
          refine x_bipush 41 d_M_inBlock_41 (v := (6 : Int32)) (by decide +kernel) ?_
          refine x_iloadn 43 1 d_M_inBlock_43 rfl rfl ?_
          refine x_imul 44 d_M_inBlock_44 ?_
          refine x_iload 45 4 d_M_inBlock_45 rfl ?_
          refine x_iadd 47 d_M_inBlock_47 ?_
          replace h := gb1_elim h; obtain ⟨v15, h16, h⟩ := h
          refine x_iald 48 rfl h16 d_M_inBlock_48 ?_
          refine x_icmp_gt 49 56 d_M_inBlock_49 (by decide) (fun c17 => ?_) (fun c17 => ?_)
          · replace h := gif_t h c17
            refine x_iconst 56 d_M_inBlock_56 (v := (0 : Int32)) (by decide +kernel) ?_
            refine x_istoren 57 (lv' := [(3, .inl (0 : Int32)), (0, .inr (.inr p0)), (1, .inl p1), (2, .inl p2), (4, .inl p4)]) d_M_inBlock_57 rfl (by decide) rfl ?_
            replace h := gLet_elim h; obtain ⟨x18, ex18, h⟩ := h
            refine x_iinc 58 4 (v := x18) (lv' := [(4, .inl x18), (3, .inl (0 : Int32)), (0, .inr (.inr p0)), (1, .inl p1), (2, .inl p2)]) d_M_inBlock_58 rfl (by rw [ex18]; rfl) (by decide) rfl ?_
            refine x_goto 61 5 d_M_inBlock_61 (by decide) ?_
            refine x_sub [2, 3, 4, 1, 0] rfl ?_
            exact ih _ _ _ _ _ _ h
          · replace h := gif_f h c17
            refine x_iconst 52 d_M_inBlock_52 (v := (1 : Int32)) (by decide +kernel) ?_
            refine x_goto 53 57 d_M_inBlock_53 (by decide) ?_
            refine x_istoren 57 (lv' := [(3, .inl (1 : Int32)), (0, .inr (.inr p0)), (1, .inl p1), (2, .inl p2), (4, .inl p4)]) d_M_inBlock_57 rfl (by decide) rfl ?_
            replace h := gLet_elim h; obtain ⟨x19, ex19, h⟩ := h
            refine x_iinc 58 4 (v := x19) (lv' := [(4, .inl x19), (3, .inl (1 : Int32)), (0, .inr (.inr p0)), (1, .inl p1), (2, .inl p2)]) d_M_inBlock_58 rfl (by rw [ex19]; rfl) (by decide) rfl ?_
            refine x_goto 61 5 d_M_inBlock_61 (by decide) ?_
            refine x_sub [2, 3, 4, 1, 0] rfl ?_
            exact ih _ _ _ _ _ _ h
      · replace h := gif_f h c6
        refine x_iconst 52 d_M_inBlock_52 (v := (1 : Int32)) (by decide +kernel) ?_
        refine x_goto 53 57 d_M_inBlock_53 (by decide) ?_
        refine x_istoren 57 (lv' := [(3, .inl (1 : Int32)), (0, .inr (.inr p0)), (1, .inl p1), (2, .inl p2), (4, .inl p4)]) d_M_inBlock_57 rfl (by decide) rfl ?_
        replace h := gLet_elim h; obtain ⟨x20, ex20, h⟩ := h
        refine x_iinc 58 4 (v := x20) (lv' := [(4, .inl x20), (3, .inl (1 : Int32)), (0, .inr (.inr p0)), (1, .inl p1), (2, .inl p2)]) d_M_inBlock_58 rfl (by rw [ex20]; rfl) (by decide) rfl ?_
        refine x_goto 61 5 d_M_inBlock_61 (by decide) ?_
        refine x_sub [2, 3, 4, 1, 0] rfl ?_
        exact ih _ _ _ _ _ _ h
def F_M_inBlock (b : Nat) (a0 : Int32) (a1 : Int32) (mm : gM) : Option (Int32 × gM) :=
  L_M_inBlock_5 (fun p3 mm =>
    gIf (p3 = 0 ∨ p3 = 1) (some (p3, mm))) gF (some b) a0 a1 (0 : Int32) (0 : Int32) mm
set_option maxHeartbeats 8000000 in
set_option maxRecDepth 100000 in
theorem w_M_inBlock {l : Launch} {E : gD} {n0 s0 : Nat} {b : Nat} {a0 : Int32} {a1 : Int32} {r : Int32} {mm res : gM} (h : F_M_inBlock b a0 a1 mm = some (r, res)) : xX l E Y_M_inBlock n0 s0 (some (.int r)) res 0 [(0, .inr (.inr (some b))), (1, .inl a0), (2, .inl a1)] [] mm := by
  unfold F_M_inBlock at h
  refine x_iconst 0 d_M_inBlock_0 (v := (0 : Int32)) (by decide +kernel) ?_
  refine x_istoren 1 (lv' := [(3, .inl (0 : Int32)), (0, .inr (.inr (some b))), (1, .inl a0), (2, .inl a1)]) d_M_inBlock_1 rfl (by decide) rfl ?_
  refine x_iconst 2 d_M_inBlock_2 (v := (0 : Int32)) (by decide +kernel) ?_
  refine x_istore 3 (lv' := [(4, .inl (0 : Int32)), (3, .inl (0 : Int32)), (0, .inr (.inr (some b))), (1, .inl a0), (2, .inl a1)]) d_M_inBlock_3 (by decide) rfl ?_
  refine x_sub [2, 3, 4, 1, 0] rfl ?_
  refine wL_M_inBlock_5 ?_ gF _ _ _ _ _ _ h
  · intro p3 mm h
    refine x_iloadn 64 0 d_M_inBlock_64 rfl rfl ?_
    replace h := gIf_elim h; obtain ⟨c21, h⟩ := h
    cases h
    exact x_zreturn 65 c21 rfl d_M_inBlock_65
theorem k_M_inBlock {b : Nat} {a0 : Int32} {a1 : Int32} {r : Int32} {mm res : gM} (h : F_M_inBlock b a0 a1 mm = some (r, res)) : ∀ (l : Launch) (E : gD), gLe mm res ∧ gMet l E Y_M_inBlock y_M_inBlock [.inr (.inr (some b)), .inl a0, .inl a1] (some (.int r)) mm res :=
  fun l E => ⟨(w_M_inBlock (l := l) (E := E) (n0 := 0) (s0 := 0) h).1, x_met (by decide +kernel) rfl rfl rfl (Nat.le_of_ble_eq_true rfl) (w_M_inBlock h)⟩
theorem d_M_block_0 : decode b_M_block 0 = .ok (.aload_n 0, 1) := by decide +kernel
theorem d_M_block_1 : decode b_M_block 1 = .ok (.iload_n 1, 1) := by decide +kernel
theorem d_M_block_2 : decode b_M_block 2 = .ok (.invokevirtual 92, 3) := by decide +kernel
theorem d_M_block_5 : decode b_M_block 5 = .ok (.ifCond .eq 39, 3) := by decide +kernel
theorem d_M_block_8 : decode b_M_block 8 = .ok (.aload_n 0, 1) := by decide +kernel
theorem d_M_block_9 : decode b_M_block 9 = .ok (.getfield 57, 3) := by decide +kernel
theorem d_M_block_12 : decode b_M_block 12 = .ok (.iload_n 1, 1) := by decide +kernel
theorem d_M_block_13 : decode b_M_block 13 = .ok (.iaload, 1) := by decide +kernel
theorem d_M_block_14 : decode b_M_block 14 = .ok (.bipush 6, 2) := by decide +kernel
theorem d_M_block_16 : decode b_M_block 16 = .ok (.if_icmp .eq 28, 3) := by decide +kernel
theorem d_M_block_19 : decode b_M_block 19 = .ok (.iload_n 2, 1) := by decide +kernel
theorem d_M_block_20 : decode b_M_block 20 = .ok (.i2l, 1) := by decide +kernel
theorem d_M_block_21 : decode b_M_block 21 = .ok (.lconst 1, 1) := by decide +kernel
theorem d_M_block_22 : decode b_M_block 22 = .ok (.ldc2_w 96, 3) := by decide +kernel
theorem d_M_block_25 : decode b_M_block 25 = .ok (.invokestatic 98, 3) := by decide +kernel
theorem d_M_block_28 : decode b_M_block 28 = .ok (.ifCond .eq 16, 3) := by decide +kernel
theorem d_M_block_31 : decode b_M_block 31 = .ok (.iload_n 3, 1) := by decide +kernel
theorem d_M_block_32 : decode b_M_block 32 = .ok (.i2l, 1) := by decide +kernel
theorem d_M_block_33 : decode b_M_block 33 = .ok (.iload_n 2, 1) := by decide +kernel
theorem d_M_block_34 : decode b_M_block 34 = .ok (.i2l, 1) := by decide +kernel
theorem d_M_block_35 : decode b_M_block 35 = .ok (.ldc2_w 96, 3) := by decide +kernel
theorem d_M_block_38 : decode b_M_block 38 = .ok (.invokestatic 98, 3) := by decide +kernel
theorem d_M_block_41 : decode b_M_block 41 = .ok (.ifCond .ne 5, 3) := by decide +kernel
theorem d_M_block_44 : decode b_M_block 44 = .ok (.iconst 0, 1) := by decide +kernel
theorem d_M_block_45 : decode b_M_block 45 = .ok (.ireturn, 1) := by decide +kernel
theorem d_M_block_46 : decode b_M_block 46 = .ok (.iload_n 2, 1) := by decide +kernel
theorem d_M_block_47 : decode b_M_block 47 = .ok (.istore 4, 2) := by decide +kernel
theorem d_M_block_49 : decode b_M_block 49 = .ok (.iload 4, 2) := by decide +kernel
theorem d_M_block_51 : decode b_M_block 51 = .ok (.iload_n 3, 1) := by decide +kernel
theorem d_M_block_52 : decode b_M_block 52 = .ok (.if_icmp .gt 21, 3) := by decide +kernel
theorem d_M_block_55 : decode b_M_block 55 = .ok (.aload_n 0, 1) := by decide +kernel
theorem d_M_block_56 : decode b_M_block 56 = .ok (.iload_n 1, 1) := by decide +kernel
theorem d_M_block_57 : decode b_M_block 57 = .ok (.iload 4, 2) := by decide +kernel
theorem d_M_block_59 : decode b_M_block 59 = .ok (.invokevirtual 147, 3) := by decide +kernel
theorem d_M_block_62 : decode b_M_block 62 = .ok (.ifCond .eq 5, 3) := by decide +kernel
theorem d_M_block_65 : decode b_M_block 65 = .ok (.iconst 0, 1) := by decide +kernel
theorem d_M_block_66 : decode b_M_block 66 = .ok (.ireturn, 1) := by decide +kernel
theorem d_M_block_67 : decode b_M_block 67 = .ok (.iinc 4 1, 3) := by decide +kernel
theorem d_M_block_70 : decode b_M_block 70 = .ok (.goto (-21), 3) := by decide +kernel
theorem d_M_block_73 : decode b_M_block 73 = .ok (.aload_n 0, 1) := by decide +kernel
theorem d_M_block_74 : decode b_M_block 74 = .ok (.getfield 60, 3) := by decide +kernel
theorem d_M_block_77 : decode b_M_block 77 = .ok (.bipush 6, 2) := by decide +kernel
theorem d_M_block_79 : decode b_M_block 79 = .ok (.iload_n 1, 1) := by decide +kernel
theorem d_M_block_80 : decode b_M_block 80 = .ok (.imul, 1) := by decide +kernel
theorem d_M_block_81 : decode b_M_block 81 = .ok (.aload_n 0, 1) := by decide +kernel
theorem d_M_block_82 : decode b_M_block 82 = .ok (.getfield 57, 3) := by decide +kernel
theorem d_M_block_85 : decode b_M_block 85 = .ok (.iload_n 1, 1) := by decide +kernel
theorem d_M_block_86 : decode b_M_block 86 = .ok (.iaload, 1) := by decide +kernel
theorem d_M_block_87 : decode b_M_block 87 = .ok (.iadd, 1) := by decide +kernel
theorem d_M_block_88 : decode b_M_block 88 = .ok (.iload_n 2, 1) := by decide +kernel
theorem d_M_block_89 : decode b_M_block 89 = .ok (.iastore, 1) := by decide +kernel
theorem d_M_block_90 : decode b_M_block 90 = .ok (.aload_n 0, 1) := by decide +kernel
theorem d_M_block_91 : decode b_M_block 91 = .ok (.getfield 63, 3) := by decide +kernel
theorem d_M_block_94 : decode b_M_block 94 = .ok (.bipush 6, 2) := by decide +kernel
theorem d_M_block_96 : decode b_M_block 96 = .ok (.iload_n 1, 1) := by decide +kernel
theorem d_M_block_97 : decode b_M_block 97 = .ok (.imul, 1) := by decide +kernel
theorem d_M_block_98 : decode b_M_block 98 = .ok (.aload_n 0, 1) := by decide +kernel
theorem d_M_block_99 : decode b_M_block 99 = .ok (.getfield 57, 3) := by decide +kernel
theorem d_M_block_102 : decode b_M_block 102 = .ok (.iload_n 1, 1) := by decide +kernel
theorem d_M_block_103 : decode b_M_block 103 = .ok (.iaload, 1) := by decide +kernel
theorem d_M_block_104 : decode b_M_block 104 = .ok (.iadd, 1) := by decide +kernel
theorem d_M_block_105 : decode b_M_block 105 = .ok (.iload_n 3, 1) := by decide +kernel
theorem d_M_block_106 : decode b_M_block 106 = .ok (.iastore, 1) := by decide +kernel
theorem d_M_block_107 : decode b_M_block 107 = .ok (.aload_n 0, 1) := by decide +kernel
theorem d_M_block_108 : decode b_M_block 108 = .ok (.getfield 57, 3) := by decide +kernel
theorem d_M_block_111 : decode b_M_block 111 = .ok (.iload_n 1, 1) := by decide +kernel
theorem d_M_block_112 : decode b_M_block 112 = .ok (.dup2, 1) := by decide +kernel
theorem d_M_block_113 : decode b_M_block 113 = .ok (.iaload, 1) := by decide +kernel
theorem d_M_block_114 : decode b_M_block 114 = .ok (.iconst 1, 1) := by decide +kernel
theorem d_M_block_115 : decode b_M_block 115 = .ok (.iadd, 1) := by decide +kernel
theorem d_M_block_116 : decode b_M_block 116 = .ok (.iastore, 1) := by decide +kernel
theorem d_M_block_117 : decode b_M_block 117 = .ok (.iconst 1, 1) := by decide +kernel
theorem d_M_block_118 : decode b_M_block 118 = .ok (.ireturn, 1) := by decide +kernel
def L_M_block_49 (k65 : gM → Option (Int32 × gM)) (k73 : Option Nat → Int32 → Int32 → Int32 → gM → Option (Int32 × gM)) : Nat → Option Nat → Int32 → Int32 → Int32 → Int32 → gM → Option (Int32 × gM)
  | 0, _, _, _, _, _, _ => none
  | f + 1, p0, p1, p2, p3, p4, mm =>
    if p3 < p4 then (
      k73 p0 p1 p2 p3 mm)
    else (
      gb1 (grc 10 p0 mm) fun b24 =>
      gb2 (F_M_inBlock b24 p1 p4 mm) fun v21 mm22 =>
      if v21 = 0 then (
        gLet (p4 + 1) fun x27 =>
        L_M_block_49 k65 k73 f p0 p1 p2 p3 x27 mm22)
      else (
        k65  mm22))
set_option maxHeartbeats 4000000 in
set_option maxRecDepth 100000 in
theorem wL_M_block_49 {l : Launch} {E : gD} {n0 s0 : Nat} {r : Int32} {res : gM} {k65 : gM → Option (Int32 × gM)} {k73 : Option Nat → Int32 → Int32 → Int32 → gM → Option (Int32 × gM)} (hk65 : ∀  (mm : gM), k65  mm = some (r, res) → xX l E Y_M_block n0 s0 (some (.int r)) res 65 [] [] mm) (hk73 : ∀ (p0 : Option Nat) (p1 : Int32) (p2 : Int32) (p3 : Int32) (mm : gM), k73 p0 p1 p2 p3 mm = some (r, res) → xX l E Y_M_block n0 s0 (some (.int r)) res 73 [(0, .inr (.inr p0)), (1, .inl p1), (2, .inl p2), (3, .inl p3)] [] mm) : ∀ (f : Nat) (p0 : Option Nat) (p1 : Int32) (p2 : Int32) (p3 : Int32) (p4 : Int32) (mm : gM), L_M_block_49 k65 k73 f p0 p1 p2 p3 p4 mm = some (r, res) → xX l E Y_M_block n0 s0 (some (.int r)) res 49 [(0, .inr (.inr p0)), (1, .inl p1), (2, .inl p2), (3, .inl p3), (4, .inl p4)] [] mm := by
  intro f
  induction f with
  | zero =>
    intro p0 p1 p2 p3 p4 mm h
    rw [L_M_block_49] at h
    cases h
  | succ f ih =>
    intro p0 p1 p2 p3 p4 mm h
    rw [L_M_block_49] at h
    refine x_iload 49 4 d_M_block_49 rfl ?_
    refine x_iloadn 51 3 d_M_block_51 rfl rfl ?_
    refine x_icmp_gt 52 73 d_M_block_52 (by decide) (fun c20 => ?_) (fun c20 => ?_)
    · replace h := gif_t h c20
      refine x_sub [0, 1, 2, 3] rfl ?_
      exact hk73 _ _ _ _ _ h
    · replace h := gif_f h c20
      refine x_aloadn 55 0 d_M_block_55 rfl rfl ?_
      refine x_iloadn 56 1 d_M_block_56 rfl rfl ?_
      refine x_iload 57 4 d_M_block_57 rfl ?_
      replace h := gb1_elim h; obtain ⟨b24, h25, h⟩ := h
      replace h := gb2_elim h; obtain ⟨v21, mm22, h23, h⟩ := h
      refine x_callV 59 2 (as := [.inl p1, .inl p4]) (st' := []) (rs := [.inl v21]) (k_M_inBlock h23) rfl cf_M_147 ⟨rfl, by decide +kernel, by decide, by decide, Nat.le_of_ble_eq_true rfl⟩ h25 rfl d_M_block_59 ?_
      refine x_if_eq 62 67 d_M_block_62 (by decide) (fun c26 => ?_) (fun c26 => ?_)
      · replace h := gif_t h c26
        replace h := gLet_elim h; obtain ⟨x27, ex27, h⟩ := h
        refine x_iinc 67 4 (v := x27) (lv' := [(4, .inl x27), (0, .inr (.inr p0)), (1, .inl p1), (2, .inl p2), (3, .inl p3)]) d_M_block_67 rfl (by rw [ex27]; rfl) (by decide) rfl ?_
        refine x_goto 70 49 d_M_block_70 (by decide) ?_
        refine x_sub [1, 2, 3, 4, 0] rfl ?_
        exact ih _ _ _ _ _ _ h
      · replace h := gif_f h c26
        refine x_sub [] rfl ?_
        exact hk65 _ h
def F_M_block (b : Nat) (a0 : Int32) (a1 : Int32) (a2 : Int32) (mm : gM) : Option (Int32 × gM) :=
  gb1 (grc 10 (some b) mm) fun b4 =>
  gb2 (F_M_isTeller b4 a0 mm) fun v1 mm2 =>
  if v1 = 0 then (
    some ((0 : Int32), mm2))
  else (
    gb1 (gfR 10 19 (some b) mm2) fun v7 =>
    gb1 (gaI 0 v7 a0 mm2) fun v9 =>
    if v9 = (6 : Int32) then (
      some ((0 : Int32), mm2))
    else (
      gb2 (F_M_isIn (a1).toInt64 (1 : Int64) (9999 : Int64) mm2) fun v12 mm13 =>
      if v12 = 0 then (
        some ((0 : Int32), mm13))
      else (
        gb2 (F_M_isIn (a2).toInt64 (a1).toInt64 (9999 : Int64) mm13) fun v16 mm17 =>
        if v16 = 0 then (
          some ((0 : Int32), mm17))
        else (
          L_M_block_49 (fun  mm =>
            some ((0 : Int32), mm)) (fun p0 p1 p2 p3 mm =>
            gb1 (gfR 10 20 p0 mm) fun v28 =>
            gb1 (gfR 10 19 p0 mm) fun v30 =>
            gb1 (gaI 0 v30 p1 mm) fun v32 =>
            gb1 (gsI 0 v28 (((6 : Int32) * p1) + v32) p2 mm) fun mm34 =>
            gb1 (gfR 10 21 p0 mm34) fun v36 =>
            gb1 (gfR 10 19 p0 mm34) fun v38 =>
            gb1 (gaI 0 v38 p1 mm34) fun v40 =>
            gb1 (gsI 0 v36 (((6 : Int32) * p1) + v40) p3 mm34) fun mm42 =>
            gb1 (gfR 10 19 p0 mm42) fun v44 =>
            gb1 (gaI 0 v44 p1 mm42) fun v46 =>
            gb1 (gsI 0 v44 p1 (v46 + (1 : Int32)) mm42) fun mm48 =>
            some ((1 : Int32), mm48)) gF (some b) a0 a1 a2 a1 mm17))))
set_option maxHeartbeats 8000000 in
set_option maxRecDepth 100000 in
theorem w_M_block {l : Launch} {E : gD} {n0 s0 : Nat} {b : Nat} {a0 : Int32} {a1 : Int32} {a2 : Int32} {r : Int32} {mm res : gM} (h : F_M_block b a0 a1 a2 mm = some (r, res)) : xX l E Y_M_block n0 s0 (some (.int r)) res 0 [(0, .inr (.inr (some b))), (1, .inl a0), (2, .inl a1), (3, .inl a2)] [] mm := by
  unfold F_M_block at h
  refine x_aloadn 0 0 d_M_block_0 rfl rfl ?_
  refine x_iloadn 1 1 d_M_block_1 rfl rfl ?_
  replace h := gb1_elim h; obtain ⟨b4, h5, h⟩ := h
  replace h := gb2_elim h; obtain ⟨v1, mm2, h3, h⟩ := h
  refine x_callV 2 1 (as := [.inl a0]) (st' := []) (rs := [.inl v1]) (k_M_isTeller h3) rfl cf_M_92 ⟨rfl, by decide +kernel, by decide, by decide, Nat.le_of_ble_eq_true rfl⟩ h5 rfl d_M_block_2 ?_
  refine x_if_eq 5 44 d_M_block_5 (by decide) (fun c6 => ?_) (fun c6 => ?_)
  · replace h := gif_t h c6
    refine x_iconst 44 d_M_block_44 (v := (0 : Int32)) (by decide +kernel) ?_
    cases h
    exact x_zreturn 45 (by decide) rfl d_M_block_45
  · replace h := gif_f h c6
    refine x_aloadn 8 0 d_M_block_8 rfl rfl ?_
    replace h := gb1_elim h; obtain ⟨v7, h8, h⟩ := h
    refine x_getR 9 h8 fl_M_57 d_M_block_9 ?_
    refine x_iloadn 12 1 d_M_block_12 rfl rfl ?_
    replace h := gb1_elim h; obtain ⟨v9, h10, h⟩ := h
    refine x_iald 13 rfl h10 d_M_block_13 ?_
    refine x_bipush 14 d_M_block_14 (v := (6 : Int32)) (by decide +kernel) ?_
    refine x_icmp_eq 16 44 d_M_block_16 (by decide) (fun c11 => ?_) (fun c11 => ?_)
    · replace h := gif_t h c11
      refine x_iconst 44 d_M_block_44 (v := (0 : Int32)) (by decide +kernel) ?_
      cases h
      exact x_zreturn 45 (by decide) rfl d_M_block_45
    · replace h := gif_f h c11
      refine x_iloadn 19 2 d_M_block_19 rfl rfl ?_
      refine x_i2l 20 d_M_block_20 ?_
      refine x_lconst 21 d_M_block_21 (v := (1 : Int64)) (by decide +kernel) ?_
      refine x_ldc2 22 d_M_block_22 (v := (9999 : Int64)) (gT_in3 128 rfl) ?_
      replace h := gb2_elim h; obtain ⟨v12, mm13, h14, h⟩ := h
      refine x_callS 25 3 (as := [.inr (.inl (a1).toInt64), .inr (.inl (1 : Int64)), .inr (.inl (9999 : Int64))]) (st' := []) (rs := [.inl v12]) (k_M_isIn h14) rfl cf_M_98 ⟨rfl, by decide +kernel, by decide, by decide, Nat.le_of_ble_eq_true rfl⟩ rfl d_M_block_25 ?_
      refine x_if_eq 28 44 d_M_block_28 (by decide) (fun c15 => ?_) (fun c15 => ?_)
      · replace h := gif_t h c15
        refine x_iconst 44 d_M_block_44 (v := (0 : Int32)) (by decide +kernel) ?_
        cases h
        exact x_zreturn 45 (by decide) rfl d_M_block_45
      · replace h := gif_f h c15
        refine x_iloadn 31 3 d_M_block_31 rfl rfl ?_
        refine x_i2l 32 d_M_block_32 ?_
        refine x_iloadn 33 2 d_M_block_33 rfl rfl ?_
        refine x_i2l 34 d_M_block_34 ?_
        refine x_ldc2 35 d_M_block_35 (v := (9999 : Int64)) (gT_in3 128 rfl) ?_
        replace h := gb2_elim h; obtain ⟨v16, mm17, h18, h⟩ := h
        refine x_callS 38 3 (as := [.inr (.inl (a2).toInt64), .inr (.inl (a1).toInt64), .inr (.inl (9999 : Int64))]) (st' := []) (rs := [.inl v16]) (k_M_isIn h18) rfl cf_M_98 ⟨rfl, by decide +kernel, by decide, by decide, Nat.le_of_ble_eq_true rfl⟩ rfl d_M_block_38 ?_
        refine x_if_ne 41 46 d_M_block_41 (by decide) (fun c19 => ?_) (fun c19 => ?_)
        · replace h := gif_t h c19
          refine x_iconst 44 d_M_block_44 (v := (0 : Int32)) (by decide +kernel) ?_
          cases h
          exact x_zreturn 45 (by decide) rfl d_M_block_45
        · replace h := gif_f h c19
          refine x_iloadn 46 2 d_M_block_46 rfl rfl ?_
          refine x_istore 47 (lv' := [(4, .inl a1), (0, .inr (.inr (some b))), (1, .inl a0), (2, .inl a1), (3, .inl a2)]) d_M_block_47 (by decide) rfl ?_
          refine x_sub [1, 2, 3, 4, 0] rfl ?_
          refine wL_M_block_49 ?_ ?_ gF _ _ _ _ _ _ h
          · intro  mm h
            refine x_iconst 65 d_M_block_65 (v := (0 : Int32)) (by decide +kernel) ?_
            cases h
            exact x_zreturn 66 (by decide) rfl d_M_block_66
          · intro p0 p1 p2 p3 mm h
            refine x_aloadn 73 0 d_M_block_73 rfl rfl ?_
            replace h := gb1_elim h; obtain ⟨v28, h29, h⟩ := h
            refine x_getR 74 h29 fl_M_60 d_M_block_74 ?_
            refine x_bipush 77 d_M_block_77 (v := (6 : Int32)) (by decide +kernel) ?_
            refine x_iloadn 79 1 d_M_block_79 rfl rfl ?_
            refine x_imul 80 d_M_block_80 ?_
            refine x_aloadn 81 0 d_M_block_81 rfl rfl ?_
            replace h := gb1_elim h; obtain ⟨v30, h31, h⟩ := h
            refine x_getR 82 h31 fl_M_57 d_M_block_82 ?_
            refine x_iloadn 85 1 d_M_block_85 rfl rfl ?_
            replace h := gb1_elim h; obtain ⟨v32, h33, h⟩ := h
            refine x_iald 86 rfl h33 d_M_block_86 ?_
            refine x_iadd 87 d_M_block_87 ?_
            refine x_iloadn 88 2 d_M_block_88 rfl rfl ?_
            replace h := gb1_elim h; obtain ⟨mm34, h35, h⟩ := h
            refine x_iast 89 (by decide) rfl h35 d_M_block_89 ?_
            refine x_aloadn 90 0 d_M_block_90 rfl rfl ?_
            replace h := gb1_elim h; obtain ⟨v36, h37, h⟩ := h
            refine x_getR 91 h37 fl_M_63 d_M_block_91 ?_
            refine x_bipush 94 d_M_block_94 (v := (6 : Int32)) (by decide +kernel) ?_
            refine x_iloadn 96 1 d_M_block_96 rfl rfl ?_
            refine x_imul 97 d_M_block_97 ?_
            refine x_aloadn 98 0 d_M_block_98 rfl rfl ?_
            replace h := gb1_elim h; obtain ⟨v38, h39, h⟩ := h
            refine x_getR 99 h39 fl_M_57 d_M_block_99 ?_
            refine x_iloadn 102 1 d_M_block_102 rfl rfl ?_
            replace h := gb1_elim h; obtain ⟨v40, h41, h⟩ := h
            refine x_iald 103 rfl h41 d_M_block_103 ?_
            refine x_iadd 104 d_M_block_104 ?_
            refine x_iloadn 105 3 d_M_block_105 rfl rfl ?_
            replace h := gb1_elim h; obtain ⟨mm42, h43, h⟩ := h
            refine x_iast 106 (by decide) rfl h43 d_M_block_106 ?_
            refine x_aloadn 107 0 d_M_block_107 rfl rfl ?_
            replace h := gb1_elim h; obtain ⟨v44, h45, h⟩ := h
            refine x_getR 108 h45 fl_M_57 d_M_block_108 ?_
            refine x_iloadn 111 1 d_M_block_111 rfl rfl ?_
            refine x_dup2 112 d_M_block_112 rfl rfl ?_
            replace h := gb1_elim h; obtain ⟨v46, h47, h⟩ := h
            refine x_iald 113 rfl h47 d_M_block_113 ?_
            refine x_iconst 114 d_M_block_114 (v := (1 : Int32)) (by decide +kernel) ?_
            refine x_iadd 115 d_M_block_115 ?_
            replace h := gb1_elim h; obtain ⟨mm48, h49, h⟩ := h
            refine x_iast 116 (by decide) rfl h49 d_M_block_116 ?_
            refine x_iconst 117 d_M_block_117 (v := (1 : Int32)) (by decide +kernel) ?_
            cases h
            exact x_zreturn 118 (by decide) rfl d_M_block_118
theorem k_M_block {b : Nat} {a0 : Int32} {a1 : Int32} {a2 : Int32} {r : Int32} {mm res : gM} (h : F_M_block b a0 a1 a2 mm = some (r, res)) : ∀ (l : Launch) (E : gD), gLe mm res ∧ gMet l E Y_M_block y_M_block [.inr (.inr (some b)), .inl a0, .inl a1, .inl a2] (some (.int r)) mm res :=
  fun l E => ⟨(w_M_block (l := l) (E := E) (n0 := 0) (s0 := 0) h).1, x_met (by decide +kernel) rfl rfl rfl (Nat.le_of_ble_eq_true rfl) (w_M_block h)⟩
