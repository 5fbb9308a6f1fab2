-- S_batch M_batch S_endBatch M_endBatch S_isPerson S_right M_right
theorem d_S_batch_0 : decode b_S_batch 0 = .ok (.aload_n 0, 1) := by decide +kernel
theorem d_S_batch_1 : decode b_S_batch 1 = .ok (.iload_n 1, 1) := by decide +kernel
theorem d_S_batch_2 : decode b_S_batch 2 = .ok (.invokevirtual 110, 3) := by decide +kernel
theorem d_S_batch_5 : decode b_S_batch 5 = .ok (.astore_n 2, 1) := by decide +kernel
theorem d_S_batch_6 : decode b_S_batch 6 = .ok (.aload_n 2, 1) := by decide +kernel
theorem d_S_batch_7 : decode b_S_batch 7 = .ok (.ifnull 10, 3) := by decide +kernel
theorem d_S_batch_10 : decode b_S_batch 10 = .ok (.aload_n 2, 1) := by decide +kernel
theorem d_S_batch_11 : decode b_S_batch 11 = .ok (.getfield 156, 3) := by decide +kernel
theorem d_S_batch_14 : decode b_S_batch 14 = .ok (.ifCond .eq 5, 3) := by decide +kernel
theorem d_S_batch_17 : decode b_S_batch 17 = .ok (.iconst 0, 1) := by decide +kernel
theorem d_S_batch_18 : decode b_S_batch 18 = .ok (.ireturn, 1) := by decide +kernel
theorem d_S_batch_19 : decode b_S_batch 19 = .ok (.aload_n 2, 1) := by decide +kernel
theorem d_S_batch_20 : decode b_S_batch 20 = .ok (.iconst 1, 1) := by decide +kernel
theorem d_S_batch_21 : decode b_S_batch 21 = .ok (.putfield 156, 3) := by decide +kernel
theorem d_S_batch_24 : decode b_S_batch 24 = .ok (.aload_n 2, 1) := by decide +kernel
theorem d_S_batch_25 : decode b_S_batch 25 = .ok (.getfield 159, 3) := by decide +kernel
theorem d_S_batch_28 : decode b_S_batch 28 = .ok (.aload_n 2, 1) := by decide +kernel
theorem d_S_batch_29 : decode b_S_batch 29 = .ok (.getfield 100, 3) := by decide +kernel
theorem d_S_batch_32 : decode b_S_batch 32 = .ok (.invokevirtual 162, 3) := by decide +kernel
theorem d_S_batch_35 : decode b_S_batch 35 = .ok (.iconst 1, 1) := by decide +kernel
theorem d_S_batch_36 : decode b_S_batch 36 = .ok (.ireturn, 1) := by decide +kernel
def F_S_batch (b : Nat) (a0 : Int32) (mm : gM) : Option (Int32 × gM) :=
  gb1 (grc 0 (some b) mm) fun b4 =>
  gb2 (F_S_setAt b4 a0 mm) fun v1 mm2 =>
  if v1 = none then (
    some ((0 : Int32), mm2))
  else (
    gb1 (gfI 4 2 v1 mm2) fun v7 =>
    if v7 = 0 then (
      gb1 (gpV 4 2 v1 (.int (1 : Int32)) mm2) fun mm10 =>
      gb1 (gfR 4 1 v1 mm10) fun v12 =>
      gb1 (gfR 4 0 v1 mm10) fun v14 =>
      gb1 (grc 5 v12 mm10) fun b19 =>
      gb2 (F_Holding_becomeLike b19 v14 mm10) fun v16 mm17 =>
      some ((1 : Int32), mm17))
    else (
      some ((0 : Int32), mm2)))
set_option maxHeartbeats 8000000 in
set_option maxRecDepth 100000 in
theorem w_S_batch {l : Launch} {E : gD} {n0 s0 : Nat} {b : Nat} {a0 : Int32} {r : Int32} {mm res : gM} (h : F_S_batch b a0 mm = some (r, res)) : xX l E Y_S_batch n0 s0 (some (.int r)) res 0 [(0, .inr (.inr (some b))), (1, .inl a0)] [] mm := by
  unfold F_S_batch at h
  refine x_aloadn 0 0 d_S_batch_0 rfl rfl ?_
  refine x_iloadn 1 1 d_S_batch_1 rfl rfl ?_
  replace h := gb1_elim h; obtain ⟨b4, h5, h⟩ := h
  replace h := gb2_elim h; obtain ⟨v1, mm2, h3, h⟩ := h
  refine x_callV 2 1 (as := [.inl a0]) (st' := []) (rs := [.inr (.inr v1)]) (k_S_setAt h3) rfl cf_S_110 ⟨rfl, by decide +kernel, by decide, by decide, Nat.le_of_ble_eq_true rfl⟩ h5 rfl d_S_batch_2 ?_
  refine x_astoren 5 (lv' := [(2, .inr (.inr v1)), (0, .inr (.inr (some b))), (1, .inl a0)]) d_S_batch_5 rfl (by decide) rfl ?_
  refine x_aloadn 6 0 d_S_batch_6 rfl rfl ?_
  refine x_ifnull 7 17 d_S_batch_7 (by decide) (fun c6 => ?_) (fun c6 => ?_)
  · replace h := gif_t h c6
    refine x_iconst 17 d_S_batch_17 (v := (0 : Int32)) (by decide +kernel) ?_
    cases h
    exact x_zreturn 18 (by decide) rfl d_S_batch_18
  · replace h := gif_f h c6
    refine x_aloadn 10 0 d_S_batch_10 rfl rfl ?_
    replace h := gb1_elim h; obtain ⟨v7, h8, h⟩ := h
    refine x_getI 11 h8 fl_S_156 d_S_batch_11 ?_
    refine x_if_eq 14 19 d_S_batch_14 (by decide) (fun c9 => ?_) (fun c9 => ?_)
    · replace h := gif_t h c9
      refine x_aloadn 19 0 d_S_batch_19 rfl rfl ?_
      refine x_iconst 20 d_S_batch_20 (v := (1 : Int32)) (by decide +kernel) ?_
      replace h := gb1_elim h; obtain ⟨mm10, h11, h⟩ := h
      refine x_putV 21 fp_S_156 (g_nZ (by decide)) (g_fZ (by decide)) h11 d_S_batch_21 ?_
      refine x_aloadn 24 0 d_S_batch_24 rfl rfl ?_
      replace h := gb1_elim h; obtain ⟨v12, h13, h⟩ := h
      refine x_getR 25 h13 fl_S_159 d_S_batch_25 ?_
      refine x_aloadn 28 0 d_S_batch_28 rfl rfl ?_
      replace h := gb1_elim h; obtain ⟨v14, h15, h⟩ := h
      refine x_getR 29 h15 fl_S_100 d_S_batch_29 ?_
      replace h := gb1_elim h; obtain ⟨b19, h20, h⟩ := h
      replace h := gb2_elim h; obtain ⟨v16, mm17, h18, h⟩ := h
      refine x_callV 32 1 (as := [.inr (.inr v14)]) (st' := []) (rs := []) (k_Holding_becomeLike h18) rfl cf_S_162 ⟨rfl, by decide +kernel, by decide, by decide, Nat.le_of_ble_eq_true rfl⟩ h20 rfl d_S_batch_32 ?_
      refine x_iconst 35 d_S_batch_35 (v := (1 : Int32)) (by decide +kernel) ?_
      cases h
      exact x_zreturn 36 (by decide) rfl d_S_batch_36
    · replace h := gif_f h c9
      refine x_iconst 17 d_S_batch_17 (v := (0 : Int32)) (by decide +kernel) ?_
      cases h
      exact x_zreturn 18 (by decide) rfl d_S_batch_18
theorem k_S_batch {b : Nat} {a0 : Int32} {r : Int32} {mm res : gM} (h : F_S_batch b a0 mm = some (r, res)) : ∀ (l : Launch) (E : gD), gLe mm res ∧ gMet l E Y_S_batch y_S_batch [.inr (.inr (some b)), .inl a0] (some (.int r)) mm res :=
  fun l E => ⟨(w_S_batch (l := l) (E := E) (n0 := 0) (s0 := 0) h).1, x_met (by decide +kernel) rfl rfl rfl (Nat.le_of_ble_eq_true rfl) (w_S_batch h)⟩
theorem d_M_batch_0 : decode b_M_batch 0 = .ok (.aload_n 0, 1) := by decide +kernel
theorem d_M_batch_1 : decode b_M_batch 1 = .ok (.iload_n 1, 1) := by decide +kernel
theorem d_M_batch_2 : decode b_M_batch 2 = .ok (.invokevirtual 133, 3) := by decide +kernel
theorem d_M_batch_5 : decode b_M_batch 5 = .ok (.ifCond .eq 12, 3) := by decide +kernel
theorem d_M_batch_8 : decode b_M_batch 8 = .ok (.aload_n 0, 1) := by decide +kernel
theorem d_M_batch_9 : decode b_M_batch 9 = .ok (.getfield 39, 3) := by decide +kernel
theorem d_M_batch_12 : decode b_M_batch 12 = .ok (.iload_n 1, 1) := by decide +kernel
theorem d_M_batch_13 : decode b_M_batch 13 = .ok (.baload, 1) := by decide +kernel
theorem d_M_batch_14 : decode b_M_batch 14 = .ok (.ifCond .eq 5, 3) := by decide +kernel
theorem d_M_batch_17 : decode b_M_batch 17 = .ok (.iconst 0, 1) := by decide +kernel
theorem d_M_batch_18 : decode b_M_batch 18 = .ok (.ireturn, 1) := by decide +kernel
theorem d_M_batch_19 : decode b_M_batch 19 = .ok (.aload_n 0, 1) := by decide +kernel
theorem d_M_batch_20 : decode b_M_batch 20 = .ok (.getfield 39, 3) := by decide +kernel
theorem d_M_batch_23 : decode b_M_batch 23 = .ok (.iload_n 1, 1) := by decide +kernel
theorem d_M_batch_24 : decode b_M_batch 24 = .ok (.iconst 1, 1) := by decide +kernel
theorem d_M_batch_25 : decode b_M_batch 25 = .ok (.bastore, 1) := by decide +kernel
theorem d_M_batch_26 : decode b_M_batch 26 = .ok (.iconst 0, 1) := by decide +kernel
theorem d_M_batch_27 : decode b_M_batch 27 = .ok (.istore_n 2, 1) := by decide +kernel
theorem d_M_batch_28 : decode b_M_batch 28 = .ok (.iload_n 2, 1) := by decide +kernel
theorem d_M_batch_29 : decode b_M_batch 29 = .ok (.sipush 200, 3) := by decide +kernel
theorem d_M_batch_32 : decode b_M_batch 32 = .ok (.if_icmp .ge 36, 3) := by decide +kernel
theorem d_M_batch_35 : decode b_M_batch 35 = .ok (.aload_n 0, 1) := by decide +kernel
theorem d_M_batch_36 : decode b_M_batch 36 = .ok (.getfield 33, 3) := by decide +kernel
theorem d_M_batch_39 : decode b_M_batch 39 = .ok (.sipush 200, 3) := by decide +kernel
theorem d_M_batch_42 : decode b_M_batch 42 = .ok (.bipush 12, 2) := by decide +kernel
theorem d_M_batch_44 : decode b_M_batch 44 = .ok (.iload_n 1, 1) := by decide +kernel
theorem d_M_batch_45 : decode b_M_batch 45 = .ok (.iadd, 1) := by decide +kernel
theorem d_M_batch_46 : decode b_M_batch 46 = .ok (.imul, 1) := by decide +kernel
theorem d_M_batch_47 : decode b_M_batch 47 = .ok (.iload_n 2, 1) := by decide +kernel
theorem d_M_batch_48 : decode b_M_batch 48 = .ok (.iadd, 1) := by decide +kernel
theorem d_M_batch_49 : decode b_M_batch 49 = .ok (.aload_n 0, 1) := by decide +kernel
theorem d_M_batch_50 : decode b_M_batch 50 = .ok (.getfield 33, 3) := by decide +kernel
theorem d_M_batch_53 : decode b_M_batch 53 = .ok (.sipush 200, 3) := by decide +kernel
theorem d_M_batch_56 : decode b_M_batch 56 = .ok (.iload_n 1, 1) := by decide +kernel
theorem d_M_batch_57 : decode b_M_batch 57 = .ok (.imul, 1) := by decide +kernel
theorem d_M_batch_58 : decode b_M_batch 58 = .ok (.iload_n 2, 1) := by decide +kernel
theorem d_M_batch_59 : decode b_M_batch 59 = .ok (.iadd, 1) := by decide +kernel
theorem d_M_batch_60 : decode b_M_batch 60 = .ok (.baload, 1) := by decide +kernel
theorem d_M_batch_61 : decode b_M_batch 61 = .ok (.bastore, 1) := by decide +kernel
theorem d_M_batch_62 : decode b_M_batch 62 = .ok (.iinc 2 1, 3) := by decide +kernel
theorem d_M_batch_65 : decode b_M_batch 65 = .ok (.goto (-37), 3) := by decide +kernel
theorem d_M_batch_68 : decode b_M_batch 68 = .ok (.iconst 0, 1) := by decide +kernel
theorem d_M_batch_69 : decode b_M_batch 69 = .ok (.istore_n 2, 1) := by decide +kernel
theorem d_M_batch_70 : decode b_M_batch 70 = .ok (.iload_n 2, 1) := by decide +kernel
theorem d_M_batch_71 : decode b_M_batch 71 = .ok (.bipush 40, 2) := by decide +kernel
theorem d_M_batch_73 : decode b_M_batch 73 = .ok (.if_icmp .ge 34, 3) := by decide +kernel
theorem d_M_batch_76 : decode b_M_batch 76 = .ok (.aload_n 0, 1) := by decide +kernel
theorem d_M_batch_77 : decode b_M_batch 77 = .ok (.getfield 36, 3) := by decide +kernel
theorem d_M_batch_80 : decode b_M_batch 80 = .ok (.bipush 40, 2) := by decide +kernel
theorem d_M_batch_82 : decode b_M_batch 82 = .ok (.bipush 12, 2) := by decide +kernel
theorem d_M_batch_84 : decode b_M_batch 84 = .ok (.iload_n 1, 1) := by decide +kernel
theorem d_M_batch_85 : decode b_M_batch 85 = .ok (.iadd, 1) := by decide +kernel
theorem d_M_batch_86 : decode b_M_batch 86 = .ok (.imul, 1) := by decide +kernel
theorem d_M_batch_87 : decode b_M_batch 87 = .ok (.iload_n 2, 1) := by decide +kernel
theorem d_M_batch_88 : decode b_M_batch 88 = .ok (.iadd, 1) := by decide +kernel
theorem d_M_batch_89 : decode b_M_batch 89 = .ok (.aload_n 0, 1) := by decide +kernel
theorem d_M_batch_90 : decode b_M_batch 90 = .ok (.getfield 36, 3) := by decide +kernel
theorem d_M_batch_93 : decode b_M_batch 93 = .ok (.bipush 40, 2) := by decide +kernel
theorem d_M_batch_95 : decode b_M_batch 95 = .ok (.iload_n 1, 1) := by decide +kernel
theorem d_M_batch_96 : decode b_M_batch 96 = .ok (.imul, 1) := by decide +kernel
theorem d_M_batch_97 : decode b_M_batch 97 = .ok (.iload_n 2, 1) := by decide +kernel
theorem d_M_batch_98 : decode b_M_batch 98 = .ok (.iadd, 1) := by decide +kernel
theorem d_M_batch_99 : decode b_M_batch 99 = .ok (.baload, 1) := by decide +kernel
theorem d_M_batch_100 : decode b_M_batch 100 = .ok (.bastore, 1) := by decide +kernel
theorem d_M_batch_101 : decode b_M_batch 101 = .ok (.iinc 2 1, 3) := by decide +kernel
theorem d_M_batch_104 : decode b_M_batch 104 = .ok (.goto (-34), 3) := by decide +kernel
theorem d_M_batch_107 : decode b_M_batch 107 = .ok (.iconst 1, 1) := by decide +kernel
theorem d_M_batch_108 : decode b_M_batch 108 = .ok (.ireturn, 1) := by decide +kernel
def L_M_batch_28 (k68 : Option Nat → Int32 → gM → Option (Int32 × gM)) : Nat → Option Nat → Int32 → Int32 → gM → Option (Int32 × gM)
  | 0, _, _, _, _ => none
  | f + 1, p0, p1, p2, mm =>
    if (200 : Int32) ≤ p2 then (
      k68 p0 p1 mm)
    else (
      gb1 (gfR 10 10 p0 mm) fun v17 =>
      gb1 (gfR 10 10 p0 mm) fun v19 =>
      gb1 (gaI 2 v19 (((200 : Int32) * p1) + p2) mm) fun v21 =>
      gIf (v21 = 0 ∨ v21 = 1) (
      gb1 (gsI 2 v17 (((200 : Int32) * ((12 : Int32) + p1)) + p2) v21 mm) fun mm23 =>
      gLet (p2 + 1) fun x26 =>
      L_M_batch_28 k68 f p0 p1 x26 mm23))
set_option maxHeartbeats 4000000 in
set_option maxRecDepth 100000 in
theorem wL_M_batch_28 {l : Launch} {E : gD} {n0 s0 : Nat} {r : Int32} {res : gM} {k68 : Option Nat → Int32 → gM → Option (Int32 × gM)} (hk68 : ∀ (p0 : Option Nat) (p1 : Int32) (mm : gM), k68 p0 p1 mm = some (r, res) → xX l E Y_M_batch n0 s0 (some (.int r)) res 68 [(0, .inr (.inr p0)), (1, .inl p1)] [] mm) : ∀ (f : Nat) (p0 : Option Nat) (p1 : Int32) (p2 : Int32) (mm : gM), L_M_batch_28 k68 f p0 p1 p2 mm = some (r, res) → xX l E Y_M_batch n0 s0 (some (.int r)) res 28 [(0, .inr (.inr p0)), (1, .inl p1), (2, .inl p2)] [] mm := by
  intro f
  induction f with
  | zero =>
    intro p0 p1 p2 mm h
    rw [L_M_batch_28] at h
    cases h
  | succ f ih =>
    intro p0 p1 p2 mm h
    rw [L_M_batch_28] at h
    refine x_iloadn 28 2 d_M_batch_28 rfl rfl ?_
    refine x_sipush 29 d_M_batch_29 (v := (200 : Int32)) (by decide +kernel) ?_
    refine x_icmp_ge 32 68 d_M_batch_32 (by decide) (fun c16 => ?_) (fun c16 => ?_)
    · replace h := gif_t h c16
      refine x_sub [0, 1] rfl ?_
      exact hk68 _ _ _ h
    · replace h := gif_f h c16
      refine x_aloadn 35 0 d_M_batch_35 rfl rfl ?_
      replace h := gb1_elim h; obtain ⟨v17, h18, h⟩ := h
      refine x_getR 36 h18 fl_M_33 d_M_batch_36 ?_
      refine x_sipush 39 d_M_batch_39 (v := (200 : Int32)) (by decide +kernel) ?_
      refine x_bipush 42 d_M_batch_42 (v := (12 : Int32)) (by decide +kernel) ?_
      refine x_iloadn 44 1 d_M_batch_44 rfl rfl ?_
      refine x_iadd 45 d_M_batch_45 ?_
      refine x_imul 46 d_M_batch_46 ?_
      refine x_iloadn 47 2 d_M_batch_47 rfl rfl ?_
      refine x_iadd 48 d_M_batch_48 ?_
      refine x_aloadn 49 0 d_M_batch_49 rfl rfl ?_
      replace h := gb1_elim h; obtain ⟨v19, h20, h⟩ := h
      refine x_getR 50 h20 fl_M_33 d_M_batch_50 ?_
      refine x_sipush 53 d_M_batch_53 (v := (200 : Int32)) (by decide +kernel) ?_
      refine x_iloadn 56 1 d_M_batch_56 rfl rfl ?_
      refine x_imul 57 d_M_batch_57 ?_
      refine x_iloadn 58 2 d_M_batch_58 rfl rfl ?_
      refine x_iadd 59 d_M_batch_59 ?_
      replace h := gb1_elim h; obtain ⟨v21, h22, h⟩ := h
      refine x_zald 60 rfl h22 d_M_batch_60 ?_
      replace h := gIf_elim h; obtain ⟨c25, h⟩ := h
      replace h := gb1_elim h; obtain ⟨mm23, h24, h⟩ := h
      refine x_zast 61 c25 (by decide) rfl h24 d_M_batch_61 ?_
      replace h := gLet_elim h; obtain ⟨x26, ex26, h⟩ := h
      refine x_iinc 62 2 (v := x26) (lv' := [(2, .inl x26), (0, .inr (.inr p0)), (1, .inl p1)]) d_M_batch_62 rfl (by rw [ex26]; rfl) (by decide) rfl ?_
      refine x_goto 65 28 d_M_batch_65 (by decide) ?_
      refine x_sub [1, 2, 0] rfl ?_
      exact ih _ _ _ _ h
def L_M_batch_70 (k107 : gM → Option (Int32 × gM)) : Nat → Option Nat → Int32 → Int32 → gM → Option (Int32 × gM)
  | 0, _, _, _, _ => none
  | f + 1, p0, p1, p2, mm =>
    if (40 : Int32) ≤ p2 then (
      k107  mm)
    else (
      gb1 (gfR 10 11 p0 mm) fun v28 =>
      gb1 (gfR 10 11 p0 mm) fun v30 =>
      gb1 (gaI 2 v30 (((40 : Int32) * p1) + p2) mm) fun v32 =>
      gIf (v32 = 0 ∨ v32 = 1) (
      gb1 (gsI 2 v28 (((40 : Int32) * ((12 : Int32) + p1)) + p2) v32 mm) fun mm34 =>
      gLet (p2 + 1) fun x37 =>
      L_M_batch_70 k107 f p0 p1 x37 mm34))
set_option maxHeartbeats 4000000 in
set_option maxRecDepth 100000 in
theorem wL_M_batch_70 {l : Launch} {E : gD} {n0 s0 : Nat} {r : Int32} {res : gM} {k107 : gM → Option (Int32 × gM)} (hk107 : ∀  (mm : gM), k107  mm = some (r, res) → xX l E Y_M_batch n0 s0 (some (.int r)) res 107 [] [] mm) : ∀ (f : Nat) (p0 : Option Nat) (p1 : Int32) (p2 : Int32) (mm : gM), L_M_batch_70 k107 f p0 p1 p2 mm = some (r, res) → xX l E Y_M_batch n0 s0 (some (.int r)) res 70 [(0, .inr (.inr p0)), (1, .inl p1), (2, .inl p2)] [] mm := by
  intro f
  induction f with
  | zero =>
    intro p0 p1 p2 mm h
    rw [L_M_batch_70] at h
    cases h
  | succ f ih =>
    intro p0 p1 p2 mm h
    rw [L_M_batch_70] at h
    refine x_iloadn 70 2 d_M_batch_70 rfl rfl ?_
    refine x_bipush 71 d_M_batch_71 (v := (40 : Int32)) (by decide +kernel) ?_
    refine x_icmp_ge 73 107 d_M_batch_73 (by decide) (fun c27 => ?_) (fun c27 => ?_)
    · replace h := gif_t h c27
      refine x_sub [] rfl ?_
      exact hk107 _ h
    · replace h := gif_f h c27
      refine x_aloadn 76 0 d_M_batch_76 rfl rfl ?_
      replace h := gb1_elim h; obtain ⟨v28, h29, h⟩ := h
      refine x_getR 77 h29 fl_M_36 d_M_batch_77 ?_
      refine x_bipush 80 d_M_batch_80 (v := (40 : Int32)) (by decide +kernel) ?_
      refine x_bipush 82 d_M_batch_82 (v := (12 : Int32)) (by decide +kernel) ?_
      refine x_iloadn 84 1 d_M_batch_84 rfl rfl ?_
      refine x_iadd 85 d_M_batch_85 ?_
      refine x_imul 86 d_M_batch_86 ?_
      refine x_iloadn 87 2 d_M_batch_87 rfl rfl ?_
      refine x_iadd 88 d_M_batch_88 ?_
      refine x_aloadn 89 0 d_M_batch_89 rfl rfl ?_
      replace h := gb1_elim h; obtain ⟨v30, h31, h⟩ := h
      refine x_getR 90 h31 fl_M_36 d_M_batch_90 ?_
      refine x_bipush 93 d_M_batch_93 (v := (40 : Int32)) (by decide +kernel) ?_
      refine x_iloadn 95 1 d_M_batch_95 rfl rfl ?_
      refine x_imul 96 d_M_batch_96 ?_
      refine x_iloadn 97 2 d_M_batch_97 rfl rfl ?_
      refine x_iadd 98 d_M_batch_98 ?_
      replace h := gb1_elim h; obtain ⟨v32, h33, h⟩ := h
      refine x_zald 99 rfl h33 d_M_batch_99 ?_
      replace h := gIf_elim h; obtain ⟨c36, h⟩ := h
      replace h := gb1_elim h; obtain ⟨mm34, h35, h⟩ := h
      refine x_zast 100 c36 (by decide) rfl h35 d_M_batch_100 ?_
      replace h := gLet_elim h; obtain ⟨x37, ex37, h⟩ := h
      refine x_iinc 101 2 (v := x37) (lv' := [(2, .inl x37), (0, .inr (.inr p0)), (1, .inl p1)]) d_M_batch_101 rfl (by rw [ex37]; rfl) (by decide) rfl ?_
      refine x_goto 104 70 d_M_batch_104 (by decide) ?_
      refine x_sub [1, 2, 0] rfl ?_
      exact ih _ _ _ _ h
def F_M_batch (b : Nat) (a0 : Int32) (mm : gM) : Option (Int32 × gM) :=
  gb1 (grc 10 (some b) mm) fun b4 =>
  gb2 (F_M_isSet b4 a0 mm) fun v1 mm2 =>
  if v1 = 0 then (
    some ((0 : Int32), mm2))
  else (
    gb1 (gfR 10 12 (some b) mm2) fun v7 =>
    gb1 (gaI 2 v7 a0 mm2) fun v9 =>
    if v9 = 0 then (
      gb1 (gfR 10 12 (some b) mm2) fun v12 =>
      gb1 (gsI 2 v12 a0 (1 : Int32) mm2) fun mm14 =>
      L_M_batch_28 (fun p0 p1 mm =>
        L_M_batch_70 (fun  mm =>
          some ((1 : Int32), mm)) gF p0 p1 (0 : Int32) mm) gF (some b) a0 (0 : Int32) mm14)
    else (
      some ((0 : Int32), mm2)))
set_option maxHeartbeats 8000000 in
set_option maxRecDepth 100000 in
theorem w_M_batch {l : Launch} {E : gD} {n0 s0 : Nat} {b : Nat} {a0 : Int32} {r : Int32} {mm res : gM} (h : F_M_batch b a0 mm = some (r, res)) : xX l E Y_M_batch n0 s0 (some (.int r)) res 0 [(0, .inr (.inr (some b))), (1, .inl a0)] [] mm := by
  unfold F_M_batch at h
  refine x_aloadn 0 0 d_M_batch_0 rfl rfl ?_
  refine x_iloadn 1 1 d_M_batch_1 rfl rfl ?_
  replace h := gb1_elim h; obtain ⟨b4, h5, h⟩ := h
  replace h := gb2_elim h; obtain ⟨v1, mm2, h3, h⟩ := h
  refine x_callV 2 1 (as := [.inl a0]) (st' := []) (rs := [.inl v1]) (k_M_isSet h3) rfl cf_M_133 ⟨rfl, by decide +kernel, by decide, by decide, Nat.le_of_ble_eq_true rfl⟩ h5 rfl d_M_batch_2 ?_
  refine x_if_eq 5 17 d_M_batch_5 (by decide) (fun c6 => ?_) (fun c6 => ?_)
  · replace h := gif_t h c6
    refine x_iconst 17 d_M_batch_17 (v := (0 : Int32)) (by decide +kernel) ?_
    cases h
    exact x_zreturn 18 (by decide) rfl d_M_batch_18
  · replace h := gif_f h c6
    refine x_aloadn 8 0 d_M_batch_8 rfl rfl ?_
    replace h := gb1_elim h; obtain ⟨v7, h8, h⟩ := h
    refine x_getR 9 h8 fl_M_39 d_M_batch_9 ?_
    refine x_iloadn 12 1 d_M_batch_12 rfl rfl ?_
    replace h := gb1_elim h; obtain ⟨v9, h10, h⟩ := h
    refine x_zald 13 rfl h10 d_M_batch_13 ?_
    refine x_if_eq 14 19 d_M_batch_14 (by decide) (fun c11 => ?_) (fun c11 => ?_)
    · replace h := gif_t h c11
      refine x_aloadn 19 0 d_M_batch_19 rfl rfl ?_
      replace h := gb1_elim h; obtain ⟨v12, h13, h⟩ := h
      refine x_getR 20 h13 fl_M_39 d_M_batch_20 ?_
      refine x_iloadn 23 1 d_M_batch_23 rfl rfl ?_
      refine x_iconst 24 d_M_batch_24 (v := (1 : Int32)) (by decide +kernel) ?_
      replace h := gb1_elim h; obtain ⟨mm14, h15, h⟩ := h
      refine x_zast 25 (by decide) (by decide) rfl h15 d_M_batch_25 ?_
      refine x_iconst 26 d_M_batch_26 (v := (0 : Int32)) (by decide +kernel) ?_
      refine x_istoren 27 (lv' := [(2, .inl (0 : Int32)), (0, .inr (.inr (some b))), (1, .inl a0)]) d_M_batch_27 rfl (by decide) rfl ?_
      refine x_sub [1, 2, 0] rfl ?_
      refine wL_M_batch_28 ?_ gF _ _ _ _ h
      · intro p0 p1 mm h
        refine x_iconst 68 d_M_batch_68 (v := (0 : Int32)) (by decide +kernel) ?_
        refine x_istoren 69 (lv' := [(2, .inl (0 : Int32)), (0, .inr (.inr p0)), (1, .inl p1)]) d_M_batch_69 rfl (by decide) rfl ?_
        refine x_sub [1, 2, 0] rfl ?_
        refine wL_M_batch_70 ?_ gF _ _ _ _ h
        · intro  mm h
          refine x_iconst 107 d_M_batch_107 (v := (1 : Int32)) (by decide +kernel) ?_
          cases h
          exact x_zreturn 108 (by decide) rfl d_M_batch_108
    · replace h := gif_f h c11
      refine x_iconst 17 d_M_batch_17 (v := (0 : Int32)) (by decide +kernel) ?_
      cases h
      exact x_zreturn 18 (by decide) rfl d_M_batch_18
theorem k_M_batch {b : Nat} {a0 : Int32} {r : Int32} {mm res : gM} (h : F_M_batch b a0 mm = some (r, res)) : ∀ (l : Launch) (E : gD), gLe mm res ∧ gMet l E Y_M_batch y_M_batch [.inr (.inr (some b)), .inl a0] (some (.int r)) mm res :=
  fun l E => ⟨(w_M_batch (l := l) (E := E) (n0 := 0) (s0 := 0) h).1, x_met (by decide +kernel) rfl rfl rfl (Nat.le_of_ble_eq_true rfl) (w_M_batch h)⟩
theorem d_S_endBatch_0 : decode b_S_endBatch 0 = .ok (.aload_n 0, 1) := by decide +kernel
theorem d_S_endBatch_1 : decode b_S_endBatch 1 = .ok (.iload_n 1, 1) := by decide +kernel
theorem d_S_endBatch_2 : decode b_S_endBatch 2 = .ok (.invokevirtual 110, 3) := by decide +kernel
theorem d_S_endBatch_5 : decode b_S_endBatch 5 = .ok (.astore_n 2, 1) := by decide +kernel
theorem d_S_endBatch_6 : decode b_S_endBatch 6 = .ok (.aload_n 2, 1) := by decide +kernel
theorem d_S_endBatch_7 : decode b_S_endBatch 7 = .ok (.ifnull 10, 3) := by decide +kernel
theorem d_S_endBatch_10 : decode b_S_endBatch 10 = .ok (.aload_n 2, 1) := by decide +kernel
theorem d_S_endBatch_11 : decode b_S_endBatch 11 = .ok (.getfield 156, 3) := by decide +kernel
theorem d_S_endBatch_14 : decode b_S_endBatch 14 = .ok (.ifCond .ne 5, 3) := by decide +kernel
theorem d_S_endBatch_17 : decode b_S_endBatch 17 = .ok (.iconst 0, 1) := by decide +kernel
theorem d_S_endBatch_18 : decode b_S_endBatch 18 = .ok (.ireturn, 1) := by decide +kernel
theorem d_S_endBatch_19 : decode b_S_endBatch 19 = .ok (.aload_n 2, 1) := by decide +kernel
theorem d_S_endBatch_20 : decode b_S_endBatch 20 = .ok (.iconst 0, 1) := by decide +kernel
theorem d_S_endBatch_21 : decode b_S_endBatch 21 = .ok (.putfield 156, 3) := by decide +kernel
theorem d_S_endBatch_24 : decode b_S_endBatch 24 = .ok (.iconst 1, 1) := by decide +kernel
theorem d_S_endBatch_25 : decode b_S_endBatch 25 = .ok (.ireturn, 1) := by decide +kernel
def F_S_endBatch (b : Nat) (a0 : Int32) (mm : gM) : Option (Int32 × gM) :=
  gb1 (grc 0 (some b) mm) fun b4 =>
  gb2 (F_S_setAt b4 a0 mm) fun v1 mm2 =>
  if v1 = none then (
    some ((0 : Int32), mm2))
  else (
    gb1 (gfI 4 2 v1 mm2) fun v7 =>
    if v7 = 0 then (
      some ((0 : Int32), mm2))
    else (
      gb1 (gpV 4 2 v1 (.int (0 : Int32)) mm2) fun mm10 =>
      some ((1 : Int32), mm10)))
set_option maxHeartbeats 8000000 in
set_option maxRecDepth 100000 in
theorem w_S_endBatch {l : Launch} {E : gD} {n0 s0 : Nat} {b : Nat} {a0 : Int32} {r : Int32} {mm res : gM} (h : F_S_endBatch b a0 mm = some (r, res)) : xX l E Y_S_endBatch n0 s0 (some (.int r)) res 0 [(0, .inr (.inr (some b))), (1, .inl a0)] [] mm := by
  unfold F_S_endBatch at h
  refine x_aloadn 0 0 d_S_endBatch_0 rfl rfl ?_
  refine x_iloadn 1 1 d_S_endBatch_1 rfl rfl ?_
  replace h := gb1_elim h; obtain ⟨b4, h5, h⟩ := h
  replace h := gb2_elim h; obtain ⟨v1, mm2, h3, h⟩ := h
  refine x_callV 2 1 (as := [.inl a0]) (st' := []) (rs := [.inr (.inr v1)]) (k_S_setAt h3) rfl cf_S_110 ⟨rfl, by decide +kernel, by decide, by decide, Nat.le_of_ble_eq_true rfl⟩ h5 rfl d_S_endBatch_2 ?_
  refine x_astoren 5 (lv' := [(2, .inr (.inr v1)), (0, .inr (.inr (some b))), (1, .inl a0)]) d_S_endBatch_5 rfl (by decide) rfl ?_
  refine x_aloadn 6 0 d_S_endBatch_6 rfl rfl ?_
  refine x_ifnull 7 17 d_S_endBatch_7 (by decide) (fun c6 => ?_) (fun c6 => ?_)
  · replace h := gif_t h c6
    refine x_iconst 17 d_S_endBatch_17 (v := (0 : Int32)) (by decide +kernel) ?_
    cases h
    exact x_zreturn 18 (by decide) rfl d_S_endBatch_18
  · replace h := gif_f h c6
    refine x_aloadn 10 0 d_S_endBatch_10 rfl rfl ?_
    replace h := gb1_elim h; obtain ⟨v7, h8, h⟩ := h
    refine x_getI 11 h8 fl_S_156 d_S_endBatch_11 ?_
    refine x_if_ne 14 19 d_S_endBatch_14 (by decide) (fun c9 => ?_) (fun c9 => ?_)
    · replace h := gif_t h c9
      refine x_iconst 17 d_S_endBatch_17 (v := (0 : Int32)) (by decide +kernel) ?_
      cases h
      exact x_zreturn 18 (by decide) rfl d_S_endBatch_18
    · replace h := gif_f h c9
      refine x_aloadn 19 0 d_S_endBatch_19 rfl rfl ?_
      refine x_iconst 20 d_S_endBatch_20 (v := (0 : Int32)) (by decide +kernel) ?_
      replace h := gb1_elim h; obtain ⟨mm10, h11, h⟩ := h
      refine x_putV 21 fp_S_156 (g_nZ (by decide)) (g_fZ (by decide)) h11 d_S_endBatch_21 ?_
      refine x_iconst 24 d_S_endBatch_24 (v := (1 : Int32)) (by decide +kernel) ?_
      cases h
      exact x_zreturn 25 (by decide) rfl d_S_endBatch_25
theorem k_S_endBatch {b : Nat} {a0 : Int32} {r : Int32} {mm res : gM} (h : F_S_endBatch b a0 mm = some (r, res)) : ∀ (l : Launch) (E : gD), gLe mm res ∧ gMet l E Y_S_endBatch y_S_endBatch [.inr (.inr (some b)), .inl a0] (some (.int r)) mm res :=
  fun l E => ⟨(w_S_endBatch (l := l) (E := E) (n0 := 0) (s0 := 0) h).1, x_met (by decide +kernel) rfl rfl rfl (Nat.le_of_ble_eq_true rfl) (w_S_endBatch h)⟩
theorem d_M_endBatch_0 : decode b_M_endBatch 0 = .ok (.aload_n 0, 1) := by decide +kernel
theorem d_M_endBatch_1 : decode b_M_endBatch 1 = .ok (.iload_n 1, 1) := by decide +kernel
theorem d_M_endBatch_2 : decode b_M_endBatch 2 = .ok (.invokevirtual 133, 3) := by decide +kernel
theorem d_M_endBatch_5 : decode b_M_endBatch 5 = .ok (.ifCond .eq 12, 3) := by decide +kernel
theorem d_M_endBatch_8 : decode b_M_endBatch 8 = .ok (.aload_n 0, 1) := by decide +kernel
theorem d_M_endBatch_9 : decode b_M_endBatch 9 = .ok (.getfield 39, 3) := by decide +kernel
theorem d_M_endBatch_12 : decode b_M_endBatch 12 = .ok (.iload_n 1, 1) := by decide +kernel
theorem d_M_endBatch_13 : decode b_M_endBatch 13 = .ok (.baload, 1) := by decide +kernel
theorem d_M_endBatch_14 : decode b_M_endBatch 14 = .ok (.ifCond .ne 5, 3) := by decide +kernel
theorem d_M_endBatch_17 : decode b_M_endBatch 17 = .ok (.iconst 0, 1) := by decide +kernel
theorem d_M_endBatch_18 : decode b_M_endBatch 18 = .ok (.ireturn, 1) := by decide +kernel
theorem d_M_endBatch_19 : decode b_M_endBatch 19 = .ok (.aload_n 0, 1) := by decide +kernel
theorem d_M_endBatch_20 : decode b_M_endBatch 20 = .ok (.getfield 39, 3) := by decide +kernel
theorem d_M_endBatch_23 : decode b_M_endBatch 23 = .ok (.iload_n 1, 1) := by decide +kernel
theorem d_M_endBatch_24 : decode b_M_endBatch 24 = .ok (.iconst 0, 1) := by decide +kernel
theorem d_M_endBatch_25 : decode b_M_endBatch 25 = .ok (.bastore, 1) := by decide +kernel
theorem d_M_endBatch_26 : decode b_M_endBatch 26 = .ok (.iconst 1, 1) := by decide +kernel
theorem d_M_endBatch_27 : decode b_M_endBatch 27 = .ok (.ireturn, 1) := by decide +kernel
def F_M_endBatch (b : Nat) (a0 : Int32) (mm : gM) : Option (Int32 × gM) :=
  gb1 (grc 10 (some b) mm) fun b4 =>
  gb2 (F_M_isSet b4 a0 mm) fun v1 mm2 =>
  if v1 = 0 then (
    some ((0 : Int32), mm2))
  else (
    gb1 (gfR 10 12 (some b) mm2) fun v7 =>
    gb1 (gaI 2 v7 a0 mm2) fun v9 =>
    if v9 = 0 then (
      some ((0 : Int32), mm2))
    else (
      gb1 (gfR 10 12 (some b) mm2) fun v12 =>
      gb1 (gsI 2 v12 a0 (0 : Int32) mm2) fun mm14 =>
      some ((1 : Int32), mm14)))
set_option maxHeartbeats 8000000 in
set_option maxRecDepth 100000 in
theorem w_M_endBatch {l : Launch} {E : gD} {n0 s0 : Nat} {b : Nat} {a0 : Int32} {r : Int32} {mm res : gM} (h : F_M_endBatch b a0 mm = some (r, res)) : xX l E Y_M_endBatch n0 s0 (some (.int r)) res 0 [(0, .inr (.inr (some b))), (1, .inl a0)] [] mm := by
  unfold F_M_endBatch at h
  refine x_aloadn 0 0 d_M_endBatch_0 rfl rfl ?_
  refine x_iloadn 1 1 d_M_endBatch_1 rfl rfl ?_
  replace h := gb1_elim h; obtain ⟨b4, h5, h⟩ := h
  replace h := gb2_elim h; obtain ⟨v1, mm2, h3, h⟩ := h
  refine x_callV 2 1 (as := [.inl a0]) (st' := []) (rs := [.inl v1]) (k_M_isSet h3) rfl cf_M_133 ⟨rfl, by decide +kernel, by decide, by decide, Nat.le_of_ble_eq_true rfl⟩ h5 rfl d_M_endBatch_2 ?_
  refine x_if_eq 5 17 d_M_endBatch_5 (by decide) (fun c6 => ?_) (fun c6 => ?_)
  · replace h := gif_t h c6
    refine x_iconst 17 d_M_endBatch_17 (v := (0 : Int32)) (by decide +kernel) ?_
    cases h
    exact x_zreturn 18 (by decide) rfl d_M_endBatch_18
  · replace h := gif_f h c6
    refine x_aloadn 8 0 d_M_endBatch_8 rfl rfl ?_
    replace h := gb1_elim h; obtain ⟨v7, h8, h⟩ := h
    refine x_getR 9 h8 fl_M_39 d_M_endBatch_9 ?_
    refine x_iloadn 12 1 d_M_endBatch_12 rfl rfl ?_
    replace h := gb1_elim h; obtain ⟨v9, h10, h⟩ := h
    refine x_zald 13 rfl h10 d_M_endBatch_13 ?_
    refine x_if_ne 14 19 d_M_endBatch_14 (by decide) (fun c11 => ?_) (fun c11 => ?_)
    · replace h := gif_t h c11
      refine x_iconst 17 d_M_endBatch_17 (v := (0 : Int32)) (by decide +kernel) ?_
      cases h
      exact x_zreturn 18 (by decide) rfl d_M_endBatch_18
    · replace h := gif_f h c11
      refine x_aloadn 19 0 d_M_endBatch_19 rfl rfl ?_
      replace h := gb1_elim h; obtain ⟨v12, h13, h⟩ := h
      refine x_getR 20 h13 fl_M_39 d_M_endBatch_20 ?_
      refine x_iloadn 23 1 d_M_endBatch_23 rfl rfl ?_
      refine x_iconst 24 d_M_endBatch_24 (v := (0 : Int32)) (by decide +kernel) ?_
      replace h := gb1_elim h; obtain ⟨mm14, h15, h⟩ := h
      refine x_zast 25 (by decide) (by decide) rfl h15 d_M_endBatch_25 ?_
      refine x_iconst 26 d_M_endBatch_26 (v := (1 : Int32)) (by decide +kernel) ?_
      cases h
      exact x_zreturn 27 (by decide) rfl d_M_endBatch_27
theorem k_M_endBatch {b : Nat} {a0 : Int32} {r : Int32} {mm res : gM} (h : F_M_endBatch b a0 mm = some (r, res)) : ∀ (l : Launch) (E : gD), gLe mm res ∧ gMet l E Y_M_endBatch y_M_endBatch [.inr (.inr (some b)), .inl a0] (some (.int r)) mm res :=
  fun l E => ⟨(w_M_endBatch (l := l) (E := E) (n0 := 0) (s0 := 0) h).1, x_met (by decide +kernel) rfl rfl rfl (Nat.le_of_ble_eq_true rfl) (w_M_endBatch h)⟩
theorem d_S_isPerson_0 : decode b_S_isPerson 0 = .ok (.iload_n 0, 1) := by decide +kernel
theorem d_S_isPerson_1 : decode b_S_isPerson 1 = .ok (.ifCond .lt 13, 3) := by decide +kernel
theorem d_S_isPerson_4 : decode b_S_isPerson 4 = .ok (.iload_n 0, 1) := by decide +kernel
theorem d_S_isPerson_5 : decode b_S_isPerson 5 = .ok (.bipush 10, 2) := by decide +kernel
theorem d_S_isPerson_7 : decode b_S_isPerson 7 = .ok (.if_icmp .ge 7, 3) := by decide +kernel
theorem d_S_isPerson_10 : decode b_S_isPerson 10 = .ok (.iconst 1, 1) := by decide +kernel
theorem d_S_isPerson_11 : decode b_S_isPerson 11 = .ok (.goto 4, 3) := by decide +kernel
theorem d_S_isPerson_14 : decode b_S_isPerson 14 = .ok (.iconst 0, 1) := by decide +kernel
theorem d_S_isPerson_15 : decode b_S_isPerson 15 = .ok (.ireturn, 1) := by decide +kernel
def F_S_isPerson (a0 : Int32) (mm : gM) : Option (Int32 × gM) :=
  if a0 < 0 then (
    some ((0 : Int32), mm))
  else (
    if (10 : Int32) ≤ a0 then (
      some ((0 : Int32), mm))
    else (
      some ((1 : Int32), mm)))
set_option maxHeartbeats 8000000 in
set_option maxRecDepth 100000 in
theorem w_S_isPerson {l : Launch} {E : gD} {n0 s0 : Nat} {a0 : Int32} {r : Int32} {mm res : gM} (h : F_S_isPerson a0 mm = some (r, res)) : xX l E Y_S_isPerson n0 s0 (some (.int r)) res 0 [(0, .inl a0)] [] mm := by
  unfold F_S_isPerson at h
  refine x_iloadn 0 0 d_S_isPerson_0 rfl rfl ?_
  refine x_if_lt 1 14 d_S_isPerson_1 (by decide) (fun c1 => ?_) (fun c1 => ?_)
  · replace h := gif_t h c1
    refine x_iconst 14 d_S_isPerson_14 (v := (0 : Int32)) (by decide +kernel) ?_
    cases h
    exact x_zreturn 15 (by decide) rfl d_S_isPerson_15
  · replace h := gif_f h c1
    refine x_iloadn 4 0 d_S_isPerson_4 rfl rfl ?_
    refine x_bipush 5 d_S_isPerson_5 (v := (10 : Int32)) (by decide +kernel) ?_
    refine x_icmp_ge 7 14 d_S_isPerson_7 (by decide) (fun c2 => ?_) (fun c2 => ?_)
    · replace h := gif_t h c2
      refine x_iconst 14 d_S_isPerson_14 (v := (0 : Int32)) (by decide +kernel) ?_
      cases h
      exact x_zreturn 15 (by decide) rfl d_S_isPerson_15
    · replace h := gif_f h c2
      refine x_iconst 10 d_S_isPerson_10 (v := (1 : Int32)) (by decide +kernel) ?_
      refine x_goto 11 15 d_S_isPerson_11 (by decide) ?_
      cases h
      exact x_zreturn 15 (by decide) rfl d_S_isPerson_15
theorem k_S_isPerson {a0 : Int32} {r : Int32} {mm res : gM} (h : F_S_isPerson a0 mm = some (r, res)) : ∀ (l : Launch) (E : gD), gLe mm res ∧ gMet l E Y_S_isPerson y_S_isPerson [.inl a0] (some (.int r)) mm res :=
  fun l E => ⟨(w_S_isPerson (l := l) (E := E) (n0 := 0) (s0 := 0) h).1, x_met (by decide +kernel) rfl rfl rfl (Nat.le_of_ble_eq_true rfl) (w_S_isPerson h)⟩
theorem d_S_right_0 : decode b_S_right 0 = .ok (.iload_n 1, 1) := by decide +kernel
theorem d_S_right_1 : decode b_S_right 1 = .ok (.invokestatic 165, 3) := by decide +kernel
theorem d_S_right_4 : decode b_S_right 4 = .ok (.ifCond .eq 10, 3) := by decide +kernel
theorem d_S_right_7 : decode b_S_right 7 = .ok (.iload_n 2, 1) := by decide +kernel
theorem d_S_right_8 : decode b_S_right 8 = .ok (.invokestatic 168, 3) := by decide +kernel
theorem d_S_right_11 : decode b_S_right 11 = .ok (.ifCond .ne 5, 3) := by decide +kernel
theorem d_S_right_14 : decode b_S_right 14 = .ok (.iconst 0, 1) := by decide +kernel
theorem d_S_right_15 : decode b_S_right 15 = .ok (.ireturn, 1) := by decide +kernel
theorem d_S_right_16 : decode b_S_right 16 = .ok (.aload_n 0, 1) := by decide +kernel
theorem d_S_right_17 : decode b_S_right 17 = .ok (.getfield 30, 3) := by decide +kernel
theorem d_S_right_20 : decode b_S_right 20 = .ok (.iload_n 1, 1) := by decide +kernel
theorem d_S_right_21 : decode b_S_right 21 = .ok (.bipush 8, 2) := by decide +kernel
theorem d_S_right_23 : decode b_S_right 23 = .ok (.imul, 1) := by decide +kernel
theorem d_S_right_24 : decode b_S_right 24 = .ok (.iload_n 2, 1) := by decide +kernel
theorem d_S_right_25 : decode b_S_right 25 = .ok (.iadd, 1) := by decide +kernel
theorem d_S_right_26 : decode b_S_right 26 = .ok (.iload_n 3, 1) := by decide +kernel
theorem d_S_right_27 : decode b_S_right 27 = .ok (.bastore, 1) := by decide +kernel
theorem d_S_right_28 : decode b_S_right 28 = .ok (.iconst 1, 1) := by decide +kernel
theorem d_S_right_29 : decode b_S_right 29 = .ok (.ireturn, 1) := by decide +kernel
def F_S_right (b : Nat) (a0 : Int32) (a1 : Int32) (a2 : Int32) (mm : gM) : Option (Int32 × gM) :=
  gb2 (F_S_isPerson a0 mm) fun v1 mm2 =>
  if v1 = 0 then (
    some ((0 : Int32), mm2))
  else (
    gb2 (F_S_isKind a1 mm2) fun v5 mm6 =>
    if v5 = 0 then (
      some ((0 : Int32), mm6))
    else (
      gb1 (gfR 0 4 (some b) mm6) fun v9 =>
      gIf (a2 = 0 ∨ a2 = 1) (
      gb1 (gsI 2 v9 ((a0 * (8 : Int32)) + a1) a2 mm6) fun mm11 =>
      some ((1 : Int32), mm11))))
set_option maxHeartbeats 8000000 in
set_option maxRecDepth 100000 in
theorem w_S_right {l : Launch} {E : gD} {n0 s0 : Nat} {b : Nat} {a0 : Int32} {a1 : Int32} {a2 : Int32} {r : Int32} {mm res : gM} (h : F_S_right b a0 a1 a2 mm = some (r, res)) : xX l E Y_S_right n0 s0 (some (.int r)) res 0 [(0, .inr (.inr (some b))), (1, .inl a0), (2, .inl a1), (3, .inl a2)] [] mm := by
  unfold F_S_right at h
  refine x_iloadn 0 1 d_S_right_0 rfl rfl ?_
  replace h := gb2_elim h; obtain ⟨v1, mm2, h3, h⟩ := h
  refine x_callS 1 1 (as := [.inl a0]) (st' := []) (rs := [.inl v1]) (k_S_isPerson h3) rfl cf_S_165 ⟨rfl, by decide +kernel, by decide, by decide, Nat.le_of_ble_eq_true rfl⟩ rfl d_S_right_1 ?_
  refine x_if_eq 4 14 d_S_right_4 (by decide) (fun c4 => ?_) (fun c4 => ?_)
  · replace h := gif_t h c4
    refine x_iconst 14 d_S_right_14 (v := (0 : Int32)) (by decide +kernel) ?_
    cases h
    exact x_zreturn 15 (by decide) rfl d_S_right_15
  · replace h := gif_f h c4
    refine x_iloadn 7 2 d_S_right_7 rfl rfl ?_
    replace h := gb2_elim h; obtain ⟨v5, mm6, h7, h⟩ := h
    refine x_callS 8 1 (as := [.inl a1]) (st' := []) (rs := [.inl v5]) (k_S_isKind h7) rfl cf_S_168 ⟨rfl, by decide +kernel, by decide, by decide, Nat.le_of_ble_eq_true rfl⟩ rfl d_S_right_8 ?_
    refine x_if_ne 11 16 d_S_right_11 (by decide) (fun c8 => ?_) (fun c8 => ?_)
    · replace h := gif_t h c8
      refine x_iconst 14 d_S_right_14 (v := (0 : Int32)) (by decide +kernel) ?_
      cases h
      exact x_zreturn 15 (by decide) rfl d_S_right_15
    · replace h := gif_f h c8
      refine x_aloadn 16 0 d_S_right_16 rfl rfl ?_
      replace h := gb1_elim h; obtain ⟨v9, h10, h⟩ := h
      refine x_getR 17 h10 fl_S_30 d_S_right_17 ?_
      refine x_iloadn 20 1 d_S_right_20 rfl rfl ?_
      refine x_bipush 21 d_S_right_21 (v := (8 : Int32)) (by decide +kernel) ?_
      refine x_imul 23 d_S_right_23 ?_
      refine x_iloadn 24 2 d_S_right_24 rfl rfl ?_
      refine x_iadd 25 d_S_right_25 ?_
      refine x_iloadn 26 3 d_S_right_26 rfl rfl ?_
      replace h := gIf_elim h; obtain ⟨c13, h⟩ := h
      replace h := gb1_elim h; obtain ⟨mm11, h12, h⟩ := h
      refine x_zast 27 c13 (by decide) rfl h12 d_S_right_27 ?_
      refine x_iconst 28 d_S_right_28 (v := (1 : Int32)) (by decide +kernel) ?_
      cases h
      exact x_zreturn 29 (by decide) rfl d_S_right_29
theorem k_S_right {b : Nat} {a0 : Int32} {a1 : Int32} {a2 : Int32} {r : Int32} {mm res : gM} (h : F_S_right b a0 a1 a2 mm = some (r, res)) : ∀ (l : Launch) (E : gD), gLe mm res ∧ gMet l E Y_S_right y_S_right [.inr (.inr (some b)), .inl a0, .inl a1, .inl a2] (some (.int r)) mm res :=
  fun l E => ⟨(w_S_right (l := l) (E := E) (n0 := 0) (s0 := 0) h).1, x_met (by decide +kernel) rfl rfl rfl (Nat.le_of_ble_eq_true rfl) (w_S_right h)⟩
theorem d_M_right_0 : decode b_M_right 0 = .ok (.iload_n 1, 1) := by decide +kernel
theorem d_M_right_1 : decode b_M_right 1 = .ok (.i2l, 1) := by decide +kernel
theorem d_M_right_2 : decode b_M_right 2 = .ok (.lconst 0, 1) := by decide +kernel
theorem d_M_right_3 : decode b_M_right 3 = .ok (.ldc2_w 145, 3) := by decide +kernel
theorem d_M_right_6 : decode b_M_right 6 = .ok (.invokestatic 98, 3) := by decide +kernel
theorem d_M_right_9 : decode b_M_right 9 = .ok (.ifCond .eq 15, 3) := by decide +kernel
theorem d_M_right_12 : decode b_M_right 12 = .ok (.iload_n 2, 1) := by decide +kernel
theorem d_M_right_13 : decode b_M_right 13 = .ok (.i2l, 1) := by decide +kernel
theorem d_M_right_14 : decode b_M_right 14 = .ok (.lconst 0, 1) := by decide +kernel
theorem d_M_right_15 : decode b_M_right 15 = .ok (.ldc2_w 104, 3) := by decide +kernel
theorem d_M_right_18 : decode b_M_right 18 = .ok (.invokestatic 98, 3) := by decide +kernel
theorem d_M_right_21 : decode b_M_right 21 = .ok (.ifCond .ne 5, 3) := by decide +kernel
theorem d_M_right_24 : decode b_M_right 24 = .ok (.iconst 0, 1) := by decide +kernel
theorem d_M_right_25 : decode b_M_right 25 = .ok (.ireturn, 1) := by decide +kernel
theorem d_M_right_26 : decode b_M_right 26 = .ok (.aload_n 0, 1) := by decide +kernel
theorem d_M_right_27 : decode b_M_right 27 = .ok (.getfield 54, 3) := by decide +kernel
theorem d_M_right_30 : decode b_M_right 30 = .ok (.bipush 8, 2) := by decide +kernel
theorem d_M_right_32 : decode b_M_right 32 = .ok (.iload_n 1, 1) := by decide +kernel
theorem d_M_right_33 : decode b_M_right 33 = .ok (.imul, 1) := by decide +kernel
theorem d_M_right_34 : decode b_M_right 34 = .ok (.iload_n 2, 1) := by decide +kernel
theorem d_M_right_35 : decode b_M_right 35 = .ok (.iadd, 1) := by decide +kernel
theorem d_M_right_36 : decode b_M_right 36 = .ok (.iload_n 3, 1) := by decide +kernel
theorem d_M_right_37 : decode b_M_right 37 = .ok (.bastore, 1) := by decide +kernel
theorem d_M_right_38 : decode b_M_right 38 = .ok (.iconst 1, 1) := by decide +kernel
theorem d_M_right_39 : decode b_M_right 39 = .ok (.ireturn, 1) := by decide +kernel
def F_M_right (b : Nat) (a0 : Int32) (a1 : Int32) (a2 : Int32) (mm : gM) : Option (Int32 × gM) :=
  gb2 (F_M_isIn (a0).toInt64 (0 : Int64) (9 : Int64) mm) fun v1 mm2 =>
  if v1 = 0 then (
    some ((0 : Int32), mm2))
  else (
    gb2 (F_M_isIn (a1).toInt64 (0 : Int64) (7 : Int64) mm2) fun v5 mm6 =>
    if v5 = 0 then (
      some ((0 : Int32), mm6))
    else (
      gb1 (gfR 10 18 (some b) mm6) fun v9 =>
      gIf (a2 = 0 ∨ a2 = 1) (
      gb1 (gsI 2 v9 (((8 : Int32) * a0) + a1) a2 mm6) fun mm11 =>
      some ((1 : Int32), mm11))))
set_option maxHeartbeats 8000000 in
set_option maxRecDepth 100000 in
theorem w_M_right {l : Launch} {E : gD} {n0 s0 : Nat} {b : Nat} {a0 : Int32} {a1 : Int32} {a2 : Int32} {r : Int32} {mm res : gM} (h : F_M_right b a0 a1 a2 mm = some (r, res)) : xX l E Y_M_right n0 s0 (some (.int r)) res 0 [(0, .inr (.inr (some b))), (1, .inl a0), (2, .inl a1), (3, .inl a2)] [] mm := by
  unfold F_M_right at h
  refine x_iloadn 0 1 d_M_right_0 rfl rfl ?_
  refine x_i2l 1 d_M_right_1 ?_
  refine x_lconst 2 d_M_right_2 (v := (0 : Int64)) (by decide +kernel) ?_
  refine x_ldc2 3 d_M_right_3 (v := (9 : Int64)) (gT_in4 50 rfl) ?_
  replace h := gb2_elim h; obtain ⟨v1, mm2, h3, h⟩ := h
  refine x_callS 6 3 (as := [.inr (.inl (a0).toInt64), .inr (.inl (0 : Int64)), .inr (.inl (9 : Int64))]) (st' := []) (rs := [.inl v1]) (k_M_isIn h3) rfl cf_M_98 ⟨rfl, by decide +kernel, by decide, by decide, Nat.le_of_ble_eq_true rfl⟩ rfl d_M_right_6 ?_
  refine x_if_eq 9 24 d_M_right_9 (by decide) (fun c4 => ?_) (fun c4 => ?_)
  · replace h := gif_t h c4
    refine x_iconst 24 d_M_right_24 (v := (0 : Int32)) (by decide +kernel) ?_
    cases h
    exact x_zreturn 25 (by decide) rfl d_M_right_25
  · replace h := gif_f h c4
    refine x_iloadn 12 2 d_M_right_12 rfl rfl ?_
    refine x_i2l 13 d_M_right_13 ?_
    refine x_lconst 14 d_M_right_14 (v := (0 : Int64)) (by decide +kernel) ?_
    refine x_ldc2 15 d_M_right_15 (v := (7 : Int64)) (gT_in3 133 rfl) ?_
    replace h := gb2_elim h; obtain ⟨v5, mm6, h7, h⟩ := h
    refine x_callS 18 3 (as := [.inr (.inl (a1).toInt64), .inr (.inl (0 : Int64)), .inr (.inl (7 : Int64))]) (st' := []) (rs := [.inl v5]) (k_M_isIn h7) rfl cf_M_98 ⟨rfl, by decide +kernel, by decide, by decide, Nat.le_of_ble_eq_true rfl⟩ rfl d_M_right_18 ?_
    refine x_if_ne 21 26 d_M_right_21 (by decide) (fun c8 => ?_) (fun c8 => ?_)
    · replace h := gif_t h c8
      refine x_iconst 24 d_M_right_24 (v := (0 : Int32)) (by decide +kernel) ?_
      cases h
      exact x_zreturn 25 (by decide) rfl d_M_right_25
    · replace h := gif_f h c8
      refine x_aloadn 26 0 d_M_right_26 rfl rfl ?_
      replace h := gb1_elim h; obtain ⟨v9, h10, h⟩ := h
      refine x_getR 27 h10 fl_M_54 d_M_right_27 ?_
      refine x_bipush 30 d_M_right_30 (v := (8 : Int32)) (by decide +kernel) ?_
      refine x_iloadn 32 1 d_M_right_32 rfl rfl ?_
      refine x_imul 33 d_M_right_33 ?_
      refine x_iloadn 34 2 d_M_right_34 rfl rfl ?_
      refine x_iadd 35 d_M_right_35 ?_
      refine x_iloadn 36 3 d_M_right_36 rfl rfl ?_
      replace h := gIf_elim h; obtain ⟨c13, h⟩ := h
      replace h := gb1_elim h; obtain ⟨mm11, h12, h⟩ := h
      refine x_zast 37 c13 (by decide) rfl h12 d_M_right_37 ?_
      refine x_iconst 38 d_M_right_38 (v := (1 : Int32)) (by decide +kernel) ?_
      cases h
      exact x_zreturn 39 (by decide) rfl d_M_right_39
theorem k_M_right {b : Nat} {a0 : Int32} {a1 : Int32} {a2 : Int32} {r : Int32} {mm res : gM} (h : F_M_right b a0 a1 a2 mm = some (r, res)) : ∀ (l : Launch) (E : gD), gLe mm res ∧ gMet l E Y_M_right y_M_right [.inr (.inr (some b)), .inl a0, .inl a1, .inl a2] (some (.int r)) mm res :=
  fun l E => ⟨(w_M_right (l := l) (E := E) (n0 := 0) (s0 := 0) h).1, x_met (by decide +kernel) rfl rfl rfl (Nat.le_of_ble_eq_true rfl) (w_M_right h)⟩
