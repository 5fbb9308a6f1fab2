-- Teller_endOfLostSpan S_lost
theorem d_Teller_endOfLostSpan_0 : decode b_Teller_endOfLostSpan 0 = .ok (.aload_n 0, 1) := by decide +kernel
theorem d_Teller_endOfLostSpan_1 : decode b_Teller_endOfLostSpan 1 = .ok (.getfield 12, 3) := by decide +kernel
theorem d_Teller_endOfLostSpan_4 : decode b_Teller_endOfLostSpan 4 = .ok (.invokevirtual 72, 3) := by decide +kernel
theorem d_Teller_endOfLostSpan_7 : decode b_Teller_endOfLostSpan 7 = .ok (.ifCond .eq 7, 3) := by decide +kernel
theorem d_Teller_endOfLostSpan_10 : decode b_Teller_endOfLostSpan 10 = .ok (.iconst 0, 1) := by decide +kernel
theorem d_Teller_endOfLostSpan_11 : decode b_Teller_endOfLostSpan 11 = .ok (.goto 25, 3) := by decide +kernel
theorem d_Teller_endOfLostSpan_14 : decode b_Teller_endOfLostSpan 14 = .ok (.aload_n 0, 1) := by decide +kernel
theorem d_Teller_endOfLostSpan_15 : decode b_Teller_endOfLostSpan 15 = .ok (.getfield 12, 3) := by decide +kernel
theorem d_Teller_endOfLostSpan_18 : decode b_Teller_endOfLostSpan 18 = .ok (.aload_n 0, 1) := by decide +kernel
theorem d_Teller_endOfLostSpan_19 : decode b_Teller_endOfLostSpan 19 = .ok (.getfield 12, 3) := by decide +kernel
theorem d_Teller_endOfLostSpan_22 : decode b_Teller_endOfLostSpan 22 = .ok (.invokevirtual 36, 3) := by decide +kernel
theorem d_Teller_endOfLostSpan_25 : decode b_Teller_endOfLostSpan 25 = .ok (.iconst 1, 1) := by decide +kernel
theorem d_Teller_endOfLostSpan_26 : decode b_Teller_endOfLostSpan 26 = .ok (.isub, 1) := by decide +kernel
theorem d_Teller_endOfLostSpan_27 : decode b_Teller_endOfLostSpan 27 = .ok (.invokevirtual 40, 3) := by decide +kernel
theorem d_Teller_endOfLostSpan_30 : decode b_Teller_endOfLostSpan 30 = .ok (.checkcast 44, 3) := by decide +kernel
theorem d_Teller_endOfLostSpan_33 : decode b_Teller_endOfLostSpan 33 = .ok (.getfield 46, 3) := by decide +kernel
theorem d_Teller_endOfLostSpan_36 : decode b_Teller_endOfLostSpan 36 = .ok (.istore_n 3, 1) := by decide +kernel
theorem d_Teller_endOfLostSpan_37 : decode b_Teller_endOfLostSpan 37 = .ok (.iconst 0, 1) := by decide +kernel
theorem d_Teller_endOfLostSpan_38 : decode b_Teller_endOfLostSpan 38 = .ok (.istore 4, 2) := by decide +kernel
theorem d_Teller_endOfLostSpan_40 : decode b_Teller_endOfLostSpan 40 = .ok (.iconst 1, 1) := by decide +kernel
theorem d_Teller_endOfLostSpan_41 : decode b_Teller_endOfLostSpan 41 = .ok (.istore 5, 2) := by decide +kernel
theorem d_Teller_endOfLostSpan_43 : decode b_Teller_endOfLostSpan 43 = .ok (.iload 5, 2) := by decide +kernel
theorem d_Teller_endOfLostSpan_45 : decode b_Teller_endOfLostSpan 45 = .ok (.iload_n 3, 1) := by decide +kernel
theorem d_Teller_endOfLostSpan_46 : decode b_Teller_endOfLostSpan 46 = .ok (.if_icmp .ge 66, 3) := by decide +kernel
theorem d_Teller_endOfLostSpan_49 : decode b_Teller_endOfLostSpan 49 = .ok (.aload_n 0, 1) := by decide +kernel
theorem d_Teller_endOfLostSpan_50 : decode b_Teller_endOfLostSpan 50 = .ok (.iload 5, 2) := by decide +kernel
theorem d_Teller_endOfLostSpan_52 : decode b_Teller_endOfLostSpan 52 = .ok (.invokevirtual 76, 3) := by decide +kernel
theorem d_Teller_endOfLostSpan_55 : decode b_Teller_endOfLostSpan 55 = .ok (.istore 6, 2) := by decide +kernel
theorem d_Teller_endOfLostSpan_57 : decode b_Teller_endOfLostSpan 57 = .ok (.iload 6, 2) := by decide +kernel
theorem d_Teller_endOfLostSpan_59 : decode b_Teller_endOfLostSpan 59 = .ok (.iload 5, 2) := by decide +kernel
theorem d_Teller_endOfLostSpan_61 : decode b_Teller_endOfLostSpan 61 = .ok (.if_icmp .lt 24, 3) := by decide +kernel
theorem d_Teller_endOfLostSpan_64 : decode b_Teller_endOfLostSpan 64 = .ok (.iload 4, 2) := by decide +kernel
theorem d_Teller_endOfLostSpan_66 : decode b_Teller_endOfLostSpan 66 = .ok (.iload_n 1, 1) := by decide +kernel
theorem d_Teller_endOfLostSpan_67 : decode b_Teller_endOfLostSpan 67 = .ok (.if_icmp .ne 15, 3) := by decide +kernel
theorem d_Teller_endOfLostSpan_70 : decode b_Teller_endOfLostSpan 70 = .ok (.iload_n 2, 1) := by decide +kernel
theorem d_Teller_endOfLostSpan_71 : decode b_Teller_endOfLostSpan 71 = .ok (.ifCond .ne 8, 3) := by decide +kernel
theorem d_Teller_endOfLostSpan_74 : decode b_Teller_endOfLostSpan 74 = .ok (.iload 5, 2) := by decide +kernel
theorem d_Teller_endOfLostSpan_76 : decode b_Teller_endOfLostSpan 76 = .ok (.goto 5, 3) := by decide +kernel
theorem d_Teller_endOfLostSpan_79 : decode b_Teller_endOfLostSpan 79 = .ok (.iload 6, 2) := by decide +kernel
theorem d_Teller_endOfLostSpan_81 : decode b_Teller_endOfLostSpan 81 = .ok (.ireturn, 1) := by decide +kernel
theorem d_Teller_endOfLostSpan_82 : decode b_Teller_endOfLostSpan 82 = .ok (.iinc 4 1, 3) := by decide +kernel
theorem d_Teller_endOfLostSpan_85 : decode b_Teller_endOfLostSpan 85 = .ok (.iload 5, 2) := by decide +kernel
theorem d_Teller_endOfLostSpan_87 : decode b_Teller_endOfLostSpan 87 = .ok (.iload 6, 2) := by decide +kernel
theorem d_Teller_endOfLostSpan_89 : decode b_Teller_endOfLostSpan 89 = .ok (.aload_n 0, 1) := by decide +kernel
theorem d_Teller_endOfLostSpan_90 : decode b_Teller_endOfLostSpan 90 = .ok (.getfield 21, 3) := by decide +kernel
theorem d_Teller_endOfLostSpan_93 : decode b_Teller_endOfLostSpan 93 = .ok (.iload 5, 2) := by decide +kernel
theorem d_Teller_endOfLostSpan_95 : decode b_Teller_endOfLostSpan 95 = .ok (.invokevirtual 79, 3) := by decide +kernel
theorem d_Teller_endOfLostSpan_98 : decode b_Teller_endOfLostSpan 98 = .ok (.invokestatic 82, 3) := by decide +kernel
theorem d_Teller_endOfLostSpan_101 : decode b_Teller_endOfLostSpan 101 = .ok (.invokestatic 82, 3) := by decide +kernel
theorem d_Teller_endOfLostSpan_104 : decode b_Teller_endOfLostSpan 104 = .ok (.istore 5, 2) := by decide +kernel
theorem d_Teller_endOfLostSpan_106 : decode b_Teller_endOfLostSpan 106 = .ok (.iinc 5 1, 3) := by decide +kernel
theorem d_Teller_endOfLostSpan_109 : decode b_Teller_endOfLostSpan 109 = .ok (.goto (-66), 3) := by decide +kernel
theorem d_Teller_endOfLostSpan_112 : decode b_Teller_endOfLostSpan 112 = .ok (.iconst (-1), 1) := by decide +kernel
theorem d_Teller_endOfLostSpan_113 : decode b_Teller_endOfLostSpan 113 = .ok (.ireturn, 1) := by decide +kernel
def L_Teller_endOfLostSpan_43 (k70 : Int32 → Int32 → Int32 → gM → Option (Int32 × gM)) (k112 : gM → Option (Int32 × gM)) : Nat → Option Nat → Int32 → Int32 → Int32 → Int32 → Int32 → gM → Option (Int32 × gM)
  | 0, _, _, _, _, _, _, _ => none
  | f + 1, p0, p1, p2, p3, p4, p5, mm =>
    if p3 ≤ p5 then (
      k112  mm)
    else (
      gb1 (grc 1 p0 mm) fun b12 =>
      gb2 (F_Teller_lastLostFrom b12 p5 mm) fun v9 mm10 =>
      gLet (fun (p0 : Option Nat) (p1 : Int32) (p2 : Int32) (p3 : Int32) (p4 : Int32) (p5 : Int32) (p6 : Int32) (mm : gM) =>
        gb1 (gfR 1 1 p0 mm) fun v14 =>
        gb1 (grc 2 v14 mm) fun b19 =>
        gb2 (F_Blocks_lastAround b19 p5 mm) fun v16 mm17 =>
        gLet (if p6 < v16 then v16 else p6) fun x21 =>
        gLet (if p5 < x21 then x21 else p5) fun x22 =>
        gLet (x22 + 1) fun x23 =>
        L_Teller_endOfLostSpan_43 k70 k112 f p0 p1 p2 p3 p4 x23 mm17) fun J85 =>
      if v9 < p5 then (
        J85 p0 p1 p2 p3 p4 p5 v9 mm10)
      else (
        if p4 = p1 then (
          k70 p2 p5 v9 mm10)
        else (
          gLet (p4 + 1) fun x26 =>
          J85 p0 p1 p2 p3 x26 p5 v9 mm10)))
set_option maxHeartbeats 4000000 in
set_option maxRecDepth 100000 in
theorem wL_Teller_endOfLostSpan_43 {l : Launch} {E : gD} {n0 s0 : Nat} {r : Int32} {res : gM} {k70 : Int32 → Int32 → Int32 → gM → Option (Int32 × gM)} {k112 : gM → Option (Int32 × gM)} (hk70 : ∀ (p2 : Int32) (p5 : Int32) (p6 : Int32) (mm : gM), k70 p2 p5 p6 mm = some (r, res) → xX l E Y_Teller_endOfLostSpan n0 s0 (some (.int r)) res 70 [(2, .inl p2), (5, .inl p5), (6, .inl p6)] [] mm) (hk112 : ∀  (mm : gM), k112  mm = some (r, res) → xX l E Y_Teller_endOfLostSpan n0 s0 (some (.int r)) res 112 [] [] mm) : ∀ (f : Nat) (p0 : Option Nat) (p1 : Int32) (p2 : Int32) (p3 : Int32) (p4 : Int32) (p5 : Int32) (mm : gM), L_Teller_endOfLostSpan_43 k70 k112 f p0 p1 p2 p3 p4 p5 mm = some (r, res) → xX l E Y_Teller_endOfLostSpan n0 s0 (some (.int r)) res 43 [(0, .inr (.inr p0)), (1, .inl p1), (2, .inl p2), (3, .inl p3), (4, .inl p4), (5, .inl p5)] [] mm := by
  intro f
  induction f with
  | zero =>
    intro p0 p1 p2 p3 p4 p5 mm h
    rw [L_Teller_endOfLostSpan_43] at h
    cases h
  | succ f ih =>
    intro p0 p1 p2 p3 p4 p5 mm h
    rw [L_Teller_endOfLostSpan_43] at h
    refine x_iload 43 5 d_Teller_endOfLostSpan_43 rfl ?_
    refine x_iloadn 45 3 d_Teller_endOfLostSpan_45 rfl rfl ?_
    refine x_icmp_ge 46 112 d_Teller_endOfLostSpan_46 (by decide) (fun c8 => ?_) (fun c8 => ?_)
    · replace h := gif_t h c8
      refine x_sub [] rfl ?_
      exact hk112 _ h
    · replace h := gif_f h c8
      refine x_aloadn 49 0 d_Teller_endOfLostSpan_49 rfl rfl ?_
      refine x_iload 50 5 d_Teller_endOfLostSpan_50 rfl ?_
      replace h := gb1_elim h; obtain ⟨b12, h13, h⟩ := h
      replace h := gb2_elim h; obtain ⟨v9, mm10, h11, h⟩ := h
      refine x_callV 52 1 (as := [.inl p5]) (st' := []) (rs := [.inl v9]) (k_Teller_lastLostFrom h11) rfl cf_Teller_76 ⟨rfl, by decide +kernel, by decide, by decide, Nat.le_of_ble_eq_true rfl⟩ h13 rfl d_Teller_endOfLostSpan_52 ?_
      refine x_istore 55 (lv' := [(6, .inl v9), (0, .inr (.inr p0)), (1, .inl p1), (2, .inl p2), (3, .inl p3), (4, .inl p4), (5, .inl p5)]) d_Teller_endOfLostSpan_55 (by decide) rfl ?_
      refine x_iload 57 0 d_Teller_endOfLostSpan_57 rfl ?_
      refine x_iload 59 6 d_Teller_endOfLostSpan_59 rfl ?_
      replace h := gLet_elim h; obtain ⟨J85, hJ85, h⟩ := h
      have kJ85 : ∀ (p0 : Option Nat) (p1 : Int32) (p2 : Int32) (p3 : Int32) (p4 : Int32) (p5 : Int32) (p6 : Int32) (mm : gM), J85 p0 p1 p2 p3 p4 p5 p6 mm = some (r, res) → xX l E Y_Teller_endOfLostSpan n0 s0 (some (.int r)) res 85 [(0, .inr (.inr p0)), (1, .inl p1), (2, .inl p2), (3, .inl p3), (4, .inl p4), (5, .inl p5), (6, .inl p6)] [] mm := by
        intro p0 p1 p2 p3 p4 p5 p6 mm h
        rw [hJ85] at h
        refine x_iload 85 5 d_Teller_endOfLostSpan_85 rfl ?_
        refine x_iload 87 6 d_Teller_endOfLostSpan_87 rfl ?_
        refine x_aloadn 89 0 d_Teller_endOfLostSpan_89 rfl rfl ?_
        replace h := gb1_elim h; obtain ⟨v14, h15, h⟩ := h
        refine x_getR 90 h15 fl_Teller_21 d_Teller_endOfLostSpan_90 ?_
        refine x_iload 93 5 d_Teller_endOfLostSpan_93 rfl ?_
        replace h := gb1_elim h; obtain ⟨b19, h20, h⟩ := h
        replace h := gb2_elim h; obtain ⟨v16, mm17, h18, h⟩ := h
        refine x_callV 95 1 (as := [.inl p5]) (st' := [.inl p6, .inl p5]) (rs := [.inl v16]) (k_Blocks_lastAround h18) rfl cf_Teller_79 ⟨rfl, by decide +kernel, by decide, by decide, Nat.le_of_ble_eq_true rfl⟩ h20 rfl d_Teller_endOfLostSpan_95 ?_
        refine x_mmax 98 (gT_in3 19 rfl) (gT_in0 140 rfl) (gT_in0 11 rfl) (gT_in0 141 rfl) (by decide) (Nat.le_of_ble_eq_true rfl) d_Teller_endOfLostSpan_98 ?_
        replace h := gLet_elim h; obtain ⟨x21, ex21, h⟩ := h
        refine x_topi ex21 ?_
        refine x_mmax 101 (gT_in3 19 rfl) (gT_in0 140 rfl) (gT_in0 11 rfl) (gT_in0 141 rfl) (by decide) (Nat.le_of_ble_eq_true rfl) d_Teller_endOfLostSpan_101 ?_
        replace h := gLet_elim h; obtain ⟨x22, ex22, h⟩ := h
        refine x_topi ex22 ?_
        refine x_istore 104 (lv' := [(5, .inl x22), (0, .inr (.inr p0)), (1, .inl p1), (2, .inl p2), (3, .inl p3), (4, .inl p4), (6, .inl p6)]) d_Teller_endOfLostSpan_104 (by decide) rfl ?_
        replace h := gLet_elim h; obtain ⟨x23, ex23, h⟩ := h
        refine x_iinc 106 0 (v := x23) (lv' := [(5, .inl x23), (0, .inr (.inr p0)), (1, .inl p1), (2, .inl p2), (3, .inl p3), (4, .inl p4), (6, .inl p6)]) d_Teller_endOfLostSpan_106 rfl (by rw [ex23]; rfl) (by decide) rfl ?_
        refine x_goto 109 43 d_Teller_endOfLostSpan_109 (by decide) ?_
        refine x_sub [1, 2, 3, 4, 5, 0] rfl ?_
        exact ih _ _ _ _ _ _ _ h
      refine x_icmp_lt 61 85 d_Teller_endOfLostSpan_61 (by decide) (fun c24 => ?_) (fun c24 => ?_)
      · replace h := gif_t h c24
        refine x_sub [1, 2, 3, 4, 5, 6, 0] rfl ?_
        exact kJ85 _ _ _ _ _ _ _ _ h
      · replace h := gif_f h c24
        refine x_iload 64 5 d_Teller_endOfLostSpan_64 rfl ?_
        refine x_iloadn 66 2 d_Teller_endOfLostSpan_66 rfl rfl ?_
        refine x_icmp_ne 67 82 d_Teller_endOfLostSpan_67 (by decide) (fun c25 => ?_) (fun c25 => ?_)
        · replace h := gif_t h c25
          refine x_sub [3, 6, 0] rfl ?_
          exact hk70 _ _ _ _ h
        · replace h := gif_f h c25
          replace h := gLet_elim h; obtain ⟨x26, ex26, h⟩ := h
          refine x_iinc 82 5 (v := x26) (lv' := [(4, .inl x26), (6, .inl v9), (0, .inr (.inr p0)), (1, .inl p1), (2, .inl p2), (3, .inl p3), (5, .inl p5)]) d_Teller_endOfLostSpan_82 rfl (by rw [ex26]; rfl) (by decide) rfl ?_
          refine x_sub [2, 3, 4, 5, 0, 6, 1] rfl ?_
          exact kJ85 _ _ _ _ _ _ _ _ h
def F_Teller_endOfLostSpan (b : Nat) (a0 : Int32) (a1 : Int32) (mm : gM) : Option (Int32 × gM) :=
  gb1 (gfR 1 0 (some b) mm) fun v1 =>
  gb1 (grc 9 v1 mm) fun b6 =>
  gb2 (F_AL_isEmpty b6  mm) fun v3 mm4 =>
  gLet (fun (p0 : Option Nat) (p1 : Int32) (p2 : Int32) (q0 : Int32) (mm : gM) =>
    L_Teller_endOfLostSpan_43 (fun p2 p5 p6 mm =>
      if p2 = 0 then (
        some (p5, mm))
      else (
        some (p6, mm))) (fun  mm =>
      some ((-1 : Int32), mm)) gF p0 p1 p2 q0 (0 : Int32) (1 : Int32) mm) fun J36 =>
  if v3 = 0 then (
    gb1 (gfR 1 0 (some b) mm4) fun v29 =>
    gb1 (gfR 1 0 (some b) mm4) fun v31 =>
    gb1 (grc 9 v31 mm4) fun b36 =>
    gb2 (F_AL_size b36  mm4) fun v33 mm34 =>
    gb1 (grc 9 v29 mm34) fun b41 =>
    gb2 (F_AL_get b41 (v33 - (1 : Int32)) mm34) fun v38 mm39 =>
    gb1 (gcs 7 v38 mm39) fun u43 =>
    gb1 (gfI 7 2 v38 mm39) fun v45 =>
    J36 (some b) a0 a1 v45 mm39)
  else (
    J36 (some b) a0 a1 (0 : Int32) mm4)
set_option maxHeartbeats 8000000 in
set_option maxRecDepth 100000 in
theorem w_Teller_endOfLostSpan {l : Launch} {E : gD} {n0 s0 : Nat} {b : Nat} {a0 : Int32} {a1 : Int32} {r : Int32} {mm res : gM} (h : F_Teller_endOfLostSpan b a0 a1 mm = some (r, res)) : xX l E Y_Teller_endOfLostSpan n0 s0 (some (.int r)) res 0 [(0, .inr (.inr (some b))), (1, .inl a0), (2, .inl a1)] [] mm := by
  unfold F_Teller_endOfLostSpan at h
  refine x_aloadn 0 0 d_Teller_endOfLostSpan_0 rfl rfl ?_
  replace h := gb1_elim h; obtain ⟨v1, h2, h⟩ := h
  refine x_getR 1 h2 fl_Teller_12 d_Teller_endOfLostSpan_1 ?_
  replace h := gb1_elim h; obtain ⟨b6, h7, h⟩ := h
  replace h := gb2_elim h; obtain ⟨v3, mm4, h5, h⟩ := h
  refine x_callV 4 0 (as := []) (st' := []) (rs := [.inl v3]) (k_AL_isEmpty h5) rfl cf_Teller_72 ⟨rfl, by decide +kernel, by decide, by decide, Nat.le_of_ble_eq_true rfl⟩ h7 rfl d_Teller_endOfLostSpan_4 ?_
  replace h := gLet_elim h; obtain ⟨J36, hJ36, h⟩ := h
  have kJ36 : ∀ (p0 : Option Nat) (p1 : Int32) (p2 : Int32) (q0 : Int32) (mm : gM), J36 p0 p1 p2 q0 mm = some (r, res) → xX l E Y_Teller_endOfLostSpan n0 s0 (some (.int r)) res 36 [(0, .inr (.inr p0)), (1, .inl p1), (2, .inl p2)] [.inl q0] mm := by
    intro p0 p1 p2 q0 mm h
    rw [hJ36] at h
    refine x_istoren 36 (lv' := [(3, .inl q0), (0, .inr (.inr p0)), (1, .inl p1), (2, .inl p2)]) d_Teller_endOfLostSpan_36 rfl (by decide) rfl ?_
    refine x_iconst 37 d_Teller_endOfLostSpan_37 (v := (0 : Int32)) (by decide +kernel) ?_
    refine x_istore 38 (lv' := [(4, .inl (0 : Int32)), (3, .inl q0), (0, .inr (.inr p0)), (1, .inl p1), (2, .inl p2)]) d_Teller_endOfLostSpan_38 (by decide) rfl ?_
    refine x_iconst 40 d_Teller_endOfLostSpan_40 (v := (1 : Int32)) (by decide +kernel) ?_
    refine x_istore 41 (lv' := [(5, .inl (1 : Int32)), (4, .inl (0 : Int32)), (3, .inl q0), (0, .inr (.inr p0)), (1, .inl p1), (2, .inl p2)]) d_Teller_endOfLostSpan_41 (by decide) rfl ?_
    refine x_sub [3, 4, 5, 2, 1, 0] rfl ?_
    refine wL_Teller_endOfLostSpan_43 ?_ ?_ gF _ _ _ _ _ _ _ h
    · intro p2 p5 p6 mm h
      refine x_iloadn 70 0 d_Teller_endOfLostSpan_70 rfl rfl ?_
      refine x_if_ne 71 79 d_Teller_endOfLostSpan_71 (by decide) (fun c27 => ?_) (fun c27 => ?_)
      · replace h := gif_t h c27
        refine x_iload 74 1 d_Teller_endOfLostSpan_74 rfl ?_
        refine x_goto 76 81 d_Teller_endOfLostSpan_76 (by decide) ?_
        cases h
        exact x_ireturn 81 rfl d_Teller_endOfLostSpan_81
      · replace h := gif_f h c27
        refine x_iload 79 2 d_Teller_endOfLostSpan_79 rfl ?_
        cases h
        exact x_ireturn 81 rfl d_Teller_endOfLostSpan_81
    · intro  mm h
      refine x_iconst 112 d_Teller_endOfLostSpan_112 (v := (-1 : Int32)) (by decide +kernel) ?_
      cases h
      exact x_ireturn 113 rfl d_Teller_endOfLostSpan_113
  refine x_if_eq 7 14 d_Teller_endOfLostSpan_7 (by decide) (fun c28 => ?_) (fun c28 => ?_)
  · replace h := gif_t h c28
    refine x_aloadn 14 0 d_Teller_endOfLostSpan_14 rfl rfl ?_
    replace h := gb1_elim h; obtain ⟨v29, h30, h⟩ := h
    refine x_getR 15 h30 fl_Teller_12 d_Teller_endOfLostSpan_15 ?_
    refine x_aloadn 18 0 d_Teller_endOfLostSpan_18 rfl rfl ?_
    replace h := gb1_elim h; obtain ⟨v31, h32, h⟩ := h
    refine x_getR 19 h32 fl_Teller_12 d_Teller_endOfLostSpan_19 ?_
    replace h := gb1_elim h; obtain ⟨b36, h37, h⟩ := h
    replace h := gb2_elim h; obtain ⟨v33, mm34, h35, h⟩ := h
    refine x_callV 22 0 (as := []) (st' := [.inr (.inr v29)]) (rs := [.inl v33]) (k_AL_size h35) rfl cf_Teller_36 ⟨rfl, by decide +kernel, by decide, by decide, Nat.le_of_ble_eq_true rfl⟩ h37 rfl d_Teller_endOfLostSpan_22 ?_
    refine x_iconst 25 d_Teller_endOfLostSpan_25 (v := (1 : Int32)) (by decide +kernel) ?_
    refine x_isub 26 d_Teller_endOfLostSpan_26 ?_
    replace h := gb1_elim h; obtain ⟨b41, h42, h⟩ := h
    replace h := gb2_elim h; obtain ⟨v38, mm39, h40, h⟩ := h
    refine x_callV 27 1 (as := [.inl (v33 - (1 : Int32))]) (st' := []) (rs := [.inr (.inr v38)]) (k_AL_get h40) rfl cf_Teller_40 ⟨rfl, by decide +kernel, by decide, by decide, Nat.le_of_ble_eq_true rfl⟩ h42 rfl d_Teller_endOfLostSpan_27 ?_
    replace h := gb1_elim h; obtain ⟨u43, h44, h⟩ := h
    refine x_cast 30 h44 (show gCl[7]? = some (R_Telling, T_Telling, 7) from rfl) (gT_in1 75 rfl) d_Teller_endOfLostSpan_30 ?_
    replace h := gb1_elim h; obtain ⟨v45, h46, h⟩ := h
    refine x_getI 33 h46 fl_Teller_46 d_Teller_endOfLostSpan_33 ?_
    exact kJ36 _ _ _ _ _ h
  · replace h := gif_f h c28
    refine x_iconst 10 d_Teller_endOfLostSpan_10 (v := (0 : Int32)) (by decide +kernel) ?_
    refine x_goto 11 36 d_Teller_endOfLostSpan_11 (by decide) ?_
    exact kJ36 _ _ _ _ _ h
theorem k_Teller_endOfLostSpan {b : Nat} {a0 : Int32} {a1 : Int32} {r : Int32} {mm res : gM} (h : F_Teller_endOfLostSpan b a0 a1 mm = some (r, res)) : ∀ (l : Launch) (E : gD), gLe mm res ∧ gMet l E Y_Teller_endOfLostSpan y_Teller_endOfLostSpan [.inr (.inr (some b)), .inl a0, .inl a1] (some (.int r)) mm res :=
  fun l E => ⟨(w_Teller_endOfLostSpan (l := l) (E := E) (n0 := 0) (s0 := 0) h).1, x_met (by decide +kernel) rfl rfl rfl (Nat.le_of_ble_eq_true rfl) (w_Teller_endOfLostSpan h)⟩
theorem d_S_lost_0 : decode b_S_lost 0 = .ok (.aload_n 0, 1) := by decide +kernel
theorem d_S_lost_1 : decode b_S_lost 1 = .ok (.iload_n 1, 1) := by decide +kernel
theorem d_S_lost_2 : decode b_S_lost 2 = .ok (.invokevirtual 56, 3) := by decide +kernel
theorem d_S_lost_5 : decode b_S_lost 5 = .ok (.astore 4, 2) := by decide +kernel
theorem d_S_lost_7 : decode b_S_lost 7 = .ok (.aload 4, 2) := by decide +kernel
theorem d_S_lost_9 : decode b_S_lost 9 = .ok (.ifnull 16, 3) := by decide +kernel
theorem d_S_lost_12 : decode b_S_lost 12 = .ok (.iload_n 2, 1) := by decide +kernel
theorem d_S_lost_13 : decode b_S_lost 13 = .ok (.ifCond .lt 12, 3) := by decide +kernel
theorem d_S_lost_16 : decode b_S_lost 16 = .ok (.iload_n 3, 1) := by decide +kernel
theorem d_S_lost_17 : decode b_S_lost 17 = .ok (.ifCond .lt 8, 3) := by decide +kernel
theorem d_S_lost_20 : decode b_S_lost 20 = .ok (.iload_n 3, 1) := by decide +kernel
theorem d_S_lost_21 : decode b_S_lost 21 = .ok (.iconst 1, 1) := by decide +kernel
theorem d_S_lost_22 : decode b_S_lost 22 = .ok (.if_icmp .le 5, 3) := by decide +kernel
theorem d_S_lost_25 : decode b_S_lost 25 = .ok (.iconst (-1), 1) := by decide +kernel
theorem d_S_lost_26 : decode b_S_lost 26 = .ok (.ireturn, 1) := by decide +kernel
theorem d_S_lost_27 : decode b_S_lost 27 = .ok (.aload 4, 2) := by decide +kernel
theorem d_S_lost_29 : decode b_S_lost 29 = .ok (.iload_n 2, 1) := by decide +kernel
theorem d_S_lost_30 : decode b_S_lost 30 = .ok (.iload_n 3, 1) := by decide +kernel
theorem d_S_lost_31 : decode b_S_lost 31 = .ok (.invokevirtual 183, 3) := by decide +kernel
theorem d_S_lost_34 : decode b_S_lost 34 = .ok (.ireturn, 1) := by decide +kernel
def F_S_lost (b : Nat) (a0 : Int32) (a1 : Int32) (a2 : Int32) (mm : gM) : Option (Int32 × gM) :=
  gb1 (grc 0 (some b) mm) fun b4 =>
  gb2 (F_S_tellerAt b4 a0 mm) fun v1 mm2 =>
  if v1 = none then (
    some ((-1 : Int32), mm2))
  else (
    if a1 < 0 then (
      some ((-1 : Int32), mm2))
    else (
      if a2 < 0 then (
        some ((-1 : Int32), mm2))
      else (
        if a2 ≤ (1 : Int32) then (
          gb1 (grc 1 v1 mm2) fun b13 =>
          gb2 (F_Teller_endOfLostSpan b13 a1 a2 mm2) fun v10 mm11 =>
          some (v10, mm11))
        else (
          some ((-1 : Int32), mm2)))))
set_option maxHeartbeats 8000000 in
set_option maxRecDepth 100000 in
theorem w_S_lost {l : Launch} {E : gD} {n0 s0 : Nat} {b : Nat} {a0 : Int32} {a1 : Int32} {a2 : Int32} {r : Int32} {mm res : gM} (h : F_S_lost b a0 a1 a2 mm = some (r, res)) : xX l E Y_S_lost n0 s0 (some (.int r)) res 0 [(0, .inr (.inr (some b))), (1, .inl a0), (2, .inl a1), (3, .inl a2)] [] mm := by
  unfold F_S_lost at h
  refine x_aloadn 0 0 d_S_lost_0 rfl rfl ?_
  refine x_iloadn 1 1 d_S_lost_1 rfl rfl ?_
  replace h := gb1_elim h; obtain ⟨b4, h5, h⟩ := h
  replace h := gb2_elim h; obtain ⟨v1, mm2, h3, h⟩ := h
  refine x_callV 2 1 (as := [.inl a0]) (st' := []) (rs := [.inr (.inr v1)]) (k_S_tellerAt h3) rfl cf_S_56 ⟨rfl, by decide +kernel, by decide, by decide, Nat.le_of_ble_eq_true rfl⟩ h5 rfl d_S_lost_2 ?_
  refine x_astore 5 (lv' := [(4, .inr (.inr v1)), (0, .inr (.inr (some b))), (1, .inl a0), (2, .inl a1), (3, .inl a2)]) d_S_lost_5 (by decide) rfl ?_
  refine x_aload 7 0 d_S_lost_7 rfl ?_
  refine x_ifnull 9 25 d_S_lost_9 (by decide) (fun c6 => ?_) (fun c6 => ?_)
  · replace h := gif_t h c6
    refine x_iconst 25 d_S_lost_25 (v := (-1 : Int32)) (by decide +kernel) ?_
    cases h
    exact x_ireturn 26 rfl d_S_lost_26
  · replace h := gif_f h c6
    refine x_iloadn 12 3 d_S_lost_12 rfl rfl ?_
    refine x_if_lt 13 25 d_S_lost_13 (by decide) (fun c7 => ?_) (fun c7 => ?_)
    · replace h := gif_t h c7
      refine x_iconst 25 d_S_lost_25 (v := (-1 : Int32)) (by decide +kernel) ?_
      cases h
      exact x_ireturn 26 rfl d_S_lost_26
    · replace h := gif_f h c7
      refine x_iloadn 16 4 d_S_lost_16 rfl rfl ?_
      refine x_if_lt 17 25 d_S_lost_17 (by decide) (fun c8 => ?_) (fun c8 => ?_)
      · replace h := gif_t h c8
        refine x_iconst 25 d_S_lost_25 (v := (-1 : Int32)) (by decide +kernel) ?_
        cases h
        exact x_ireturn 26 rfl d_S_lost_26
      · replace h := gif_f h c8
        refine x_iloadn 20 4 d_S_lost_20 rfl rfl ?_
        refine x_iconst 21 d_S_lost_21 (v := (1 : Int32)) (by decide +kernel) ?_
        refine x_icmp_le 22 27 d_S_lost_22 (by decide) (fun c9 => ?_) (fun c9 => ?_)
        · replace h := gif_t h c9
          refine x_aload 27 0 d_S_lost_27 rfl ?_
          refine x_iloadn 29 3 d_S_lost_29 rfl rfl ?_
          refine x_iloadn 30 4 d_S_lost_30 rfl rfl ?_
          replace h := gb1_elim h; obtain ⟨b13, h14, h⟩ := h
          replace h := gb2_elim h; obtain ⟨v10, mm11, h12, h⟩ := h
          refine x_callV 31 2 (as := [.inl a1, .inl a2]) (st' := []) (rs := [.inl v10]) (k_Teller_endOfLostSpan h12) rfl cf_S_183 ⟨rfl, by decide +kernel, by decide, by decide, Nat.le_of_ble_eq_true rfl⟩ h14 rfl d_S_lost_31 ?_
          cases h
          exact x_ireturn 34 rfl d_S_lost_34
        · replace h := gif_f h c9
          refine x_iconst 25 d_S_lost_25 (v := (-1 : Int32)) (by decide +kernel) ?_
          cases h
          exact x_ireturn 26 rfl d_S_lost_26
theorem k_S_lost {b : Nat} {a0 : Int32} {a1 : Int32} {a2 : Int32} {r : Int32} {mm res : gM} (h : F_S_lost b a0 a1 a2 mm = some (r, res)) : ∀ (l : Launch) (E : gD), gLe mm res ∧ gMet l E Y_S_lost y_S_lost [.inr (.inr (some b)), .inl a0, .inl a1, .inl a2] (some (.int r)) mm res :=
  fun l E => ⟨(w_S_lost (l := l) (E := E) (n0 := 0) (s0 := 0) h).1, x_met (by decide +kernel) rfl rfl rfl (Nat.le_of_ble_eq_true rfl) (w_S_lost h)⟩
