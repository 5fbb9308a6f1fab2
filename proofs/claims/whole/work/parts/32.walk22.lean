-- Clock_greatestDivisor Clock_trueSecond S_corrected
theorem d_Clock_greatestDivisor_0 : decode b_Clock_greatestDivisor 0 = .ok (.lload_n 0, 1) := by decide +kernel
theorem d_Clock_greatestDivisor_1 : decode b_Clock_greatestDivisor 1 = .ok (.invokestatic 30, 3) := by decide +kernel
theorem d_Clock_greatestDivisor_4 : decode b_Clock_greatestDivisor 4 = .ok (.lstore 4, 2) := by decide +kernel
theorem d_Clock_greatestDivisor_6 : decode b_Clock_greatestDivisor 6 = .ok (.lload_n 2, 1) := by decide +kernel
theorem d_Clock_greatestDivisor_7 : decode b_Clock_greatestDivisor 7 = .ok (.invokestatic 30, 3) := by decide +kernel
theorem d_Clock_greatestDivisor_10 : decode b_Clock_greatestDivisor 10 = .ok (.lstore 6, 2) := by decide +kernel
theorem d_Clock_greatestDivisor_12 : decode b_Clock_greatestDivisor 12 = .ok (.iconst 0, 1) := by decide +kernel
theorem d_Clock_greatestDivisor_13 : decode b_Clock_greatestDivisor 13 = .ok (.istore 8, 2) := by decide +kernel
theorem d_Clock_greatestDivisor_15 : decode b_Clock_greatestDivisor 15 = .ok (.iload 8, 2) := by decide +kernel
theorem d_Clock_greatestDivisor_17 : decode b_Clock_greatestDivisor 17 = .ok (.bipush 100, 2) := by decide +kernel
theorem d_Clock_greatestDivisor_19 : decode b_Clock_greatestDivisor 19 = .ok (.if_icmp .ge 31, 3) := by decide +kernel
theorem d_Clock_greatestDivisor_22 : decode b_Clock_greatestDivisor 22 = .ok (.lload 6, 2) := by decide +kernel
theorem d_Clock_greatestDivisor_24 : decode b_Clock_greatestDivisor 24 = .ok (.lconst 0, 1) := by decide +kernel
theorem d_Clock_greatestDivisor_25 : decode b_Clock_greatestDivisor 25 = .ok (.lcmp, 1) := by decide +kernel
theorem d_Clock_greatestDivisor_26 : decode b_Clock_greatestDivisor 26 = .ok (.ifCond .eq 24, 3) := by decide +kernel
theorem d_Clock_greatestDivisor_29 : decode b_Clock_greatestDivisor 29 = .ok (.lload 4, 2) := by decide +kernel
theorem d_Clock_greatestDivisor_31 : decode b_Clock_greatestDivisor 31 = .ok (.lload 6, 2) := by decide +kernel
theorem d_Clock_greatestDivisor_33 : decode b_Clock_greatestDivisor 33 = .ok (.lrem, 1) := by decide +kernel
theorem d_Clock_greatestDivisor_34 : decode b_Clock_greatestDivisor 34 = .ok (.lstore 9, 2) := by decide +kernel
theorem d_Clock_greatestDivisor_36 : decode b_Clock_greatestDivisor 36 = .ok (.lload 6, 2) := by decide +kernel
theorem d_Clock_greatestDivisor_38 : decode b_Clock_greatestDivisor 38 = .ok (.lstore 4, 2) := by decide +kernel
theorem d_Clock_greatestDivisor_40 : decode b_Clock_greatestDivisor 40 = .ok (.lload 9, 2) := by decide +kernel
theorem d_Clock_greatestDivisor_42 : decode b_Clock_greatestDivisor 42 = .ok (.lstore 6, 2) := by decide +kernel
theorem d_Clock_greatestDivisor_44 : decode b_Clock_greatestDivisor 44 = .ok (.iinc 8 1, 3) := by decide +kernel
theorem d_Clock_greatestDivisor_47 : decode b_Clock_greatestDivisor 47 = .ok (.goto (-32), 3) := by decide +kernel
theorem d_Clock_greatestDivisor_50 : decode b_Clock_greatestDivisor 50 = .ok (.lload 4, 2) := by decide +kernel
theorem d_Clock_greatestDivisor_52 : decode b_Clock_greatestDivisor 52 = .ok (.lconst 1, 1) := by decide +kernel
theorem d_Clock_greatestDivisor_53 : decode b_Clock_greatestDivisor 53 = .ok (.invokestatic 36, 3) := by decide +kernel
theorem d_Clock_greatestDivisor_56 : decode b_Clock_greatestDivisor 56 = .ok (.lreturn, 1) := by decide +kernel
def L_Clock_greatestDivisor_15 (k50 : Int64 → gM → Option (Int64 × gM)) : Nat → Int64 → Int64 → Int32 → gM → Option (Int64 × gM)
  | 0, _, _, _, _ => none
  | f + 1, p4, p6, p8, mm =>
    if (100 : Int32) ≤ p8 then (
      k50 p4 mm)
    else (
      if p6 = (0 : Int64) then (
        k50 p4 mm)
      else (
        gIf (¬ p6 = 0) (
        gLet (p4 - p4 / p6 * p6) fun x6 =>
        gLet (p8 + 1) fun x7 =>
        L_Clock_greatestDivisor_15 k50 f p6 x6 x7 mm)))
set_option maxHeartbeats 4000000 in
set_option maxRecDepth 100000 in
theorem wL_Clock_greatestDivisor_15 {l : Launch} {E : gD} {n0 s0 : Nat} {r : Int64} {res : gM} {k50 : Int64 → gM → Option (Int64 × gM)} (hk50 : ∀ (p4 : Int64) (mm : gM), k50 p4 mm = some (r, res) → xX l E Y_Clock_greatestDivisor n0 s0 (some (.long r)) res 50 [(4, .inr (.inl p4))] [] mm) : ∀ (f : Nat) (p4 : Int64) (p6 : Int64) (p8 : Int32) (mm : gM), L_Clock_greatestDivisor_15 k50 f p4 p6 p8 mm = some (r, res) → xX l E Y_Clock_greatestDivisor n0 s0 (some (.long r)) res 15 [(4, .inr (.inl p4)), (6, .inr (.inl p6)), (8, .inl p8)] [] mm := by
  intro f
  induction f with
  | zero =>
    intro p4 p6 p8 mm h
    rw [L_Clock_greatestDivisor_15] at h
    cases h
  | succ f ih =>
    intro p4 p6 p8 mm h
    rw [L_Clock_greatestDivisor_15] at h
    refine x_iload 15 2 d_Clock_greatestDivisor_15 rfl ?_
    refine x_bipush 17 d_Clock_greatestDivisor_17 (v := (100 : Int32)) (by decide +kernel) ?_
    refine x_icmp_ge 19 50 d_Clock_greatestDivisor_19 (by decide) (fun c3 => ?_) (fun c3 => ?_)
    · replace h := gif_t h c3
      refine x_sub [0] rfl ?_
      exact hk50 _ _ h
    · replace h := gif_f h c3
      refine x_lload 22 1 d_Clock_greatestDivisor_22 rfl ?_
      refine x_lconst 24 d_Clock_greatestDivisor_24 (v := (0 : Int64)) (by decide +kernel) ?_
      refine x_lc_eq 25 50 d_Clock_greatestDivisor_25 d_Clock_greatestDivisor_26 (by decide) (fun c4 => ?_) (fun c4 => ?_)
      · replace h := gif_t h c4
        refine x_sub [0] rfl ?_
        exact hk50 _ _ h
      · replace h := gif_f h c4
        refine x_lload 29 0 d_Clock_greatestDivisor_29 rfl ?_
        refine x_lload 31 1 d_Clock_greatestDivisor_31 rfl ?_
        replace h := gIf_elim h; obtain ⟨c5, h⟩ := h
        refine x_lrem 33 c5 d_Clock_greatestDivisor_33 ?_
        replace h := gLet_elim h; obtain ⟨x6, ex6, h⟩ := h
        refine x_topl ex6 ?_
        refine x_lstore 34 (lv' := [(9, .inr (.inl x6)), (4, .inr (.inl p4)), (6, .inr (.inl p6)), (8, .inl p8)]) d_Clock_greatestDivisor_34 (by decide) rfl ?_
        refine x_lload 36 2 d_Clock_greatestDivisor_36 rfl ?_
        refine x_lstore 38 (lv' := [(4, .inr (.inl p6)), (9, .inr (.inl x6)), (6, .inr (.inl p6)), (8, .inl p8)]) d_Clock_greatestDivisor_38 (by decide) rfl ?_
        refine x_lload 40 1 d_Clock_greatestDivisor_40 rfl ?_
        refine x_lstore 42 (lv' := [(6, .inr (.inl x6)), (4, .inr (.inl p6)), (9, .inr (.inl x6)), (8, .inl p8)]) d_Clock_greatestDivisor_42 (by decide) rfl ?_
        replace h := gLet_elim h; obtain ⟨x7, ex7, h⟩ := h
        refine x_iinc 44 3 (v := x7) (lv' := [(8, .inl x7), (6, .inr (.inl x6)), (4, .inr (.inl p6)), (9, .inr (.inl x6))]) d_Clock_greatestDivisor_44 rfl (by rw [ex7]; rfl) (by decide) rfl ?_
        refine x_goto 47 15 d_Clock_greatestDivisor_47 (by decide) ?_
        refine x_sub [2, 1, 0] rfl ?_
        exact ih _ _ _ _ h
def F_Clock_greatestDivisor (a0 : Int64) (a1 : Int64) (mm : gM) : Option (Int64 × gM) :=
  gLet (if 0 < a0 then a0 else -a0) fun x1 =>
  gLet (if 0 < a1 then a1 else -a1) fun x2 =>
  L_Clock_greatestDivisor_15 (fun p4 mm =>
    gLet (if (1 : Int64) < p4 then p4 else (1 : Int64)) fun x8 =>
    some (x8, mm)) gF x1 x2 (0 : Int32) mm
set_option maxHeartbeats 8000000 in
set_option maxRecDepth 100000 in
theorem w_Clock_greatestDivisor {l : Launch} {E : gD} {n0 s0 : Nat} {a0 : Int64} {a1 : Int64} {r : Int64} {mm res : gM} (h : F_Clock_greatestDivisor a0 a1 mm = some (r, res)) : xX l E Y_Clock_greatestDivisor n0 s0 (some (.long r)) res 0 [(0, .inr (.inl a0)), (2, .inr (.inl a1))] [] mm := by
  unfold F_Clock_greatestDivisor at h
  refine x_lloadn 0 0 d_Clock_greatestDivisor_0 rfl rfl ?_
  refine x_mabsL 1 (gT_in3 50 rfl) (gT_in3 51 rfl) (gT_in0 11 rfl) (gT_in3 52 rfl) (by decide) (Nat.le_of_ble_eq_true rfl) d_Clock_greatestDivisor_1 ?_
  replace h := gLet_elim h; obtain ⟨x1, ex1, h⟩ := h
  refine x_topl ex1 ?_
  refine x_lstore 4 (lv' := [(4, .inr (.inl x1)), (0, .inr (.inl a0)), (2, .inr (.inl a1))]) d_Clock_greatestDivisor_4 (by decide) rfl ?_
  refine x_lloadn 6 2 d_Clock_greatestDivisor_6 rfl rfl ?_
  refine x_mabsL 7 (gT_in3 50 rfl) (gT_in3 51 rfl) (gT_in0 11 rfl) (gT_in3 52 rfl) (by decide) (Nat.le_of_ble_eq_true rfl) d_Clock_greatestDivisor_7 ?_
  replace h := gLet_elim h; obtain ⟨x2, ex2, h⟩ := h
  refine x_topl ex2 ?_
  refine x_lstore 10 (lv' := [(6, .inr (.inl x2)), (4, .inr (.inl x1)), (0, .inr (.inl a0)), (2, .inr (.inl a1))]) d_Clock_greatestDivisor_10 (by decide) rfl ?_
  refine x_iconst 12 d_Clock_greatestDivisor_12 (v := (0 : Int32)) (by decide +kernel) ?_
  refine x_istore 13 (lv' := [(8, .inl (0 : Int32)), (6, .inr (.inl x2)), (4, .inr (.inl x1)), (0, .inr (.inl a0)), (2, .inr (.inl a1))]) d_Clock_greatestDivisor_13 (by decide) rfl ?_
  refine x_sub [2, 1, 0] rfl ?_
  refine wL_Clock_greatestDivisor_15 ?_ gF _ _ _ _ h
  · intro p4 mm h
    refine x_lload 50 0 d_Clock_greatestDivisor_50 rfl ?_
    refine x_lconst 52 d_Clock_greatestDivisor_52 (v := (1 : Int64)) (by decide +kernel) ?_
    refine x_mmaxL 53 (gT_in3 53 rfl) (gT_in3 54 rfl) (gT_in0 11 rfl) (gT_in3 55 rfl) (by decide) (Nat.le_of_ble_eq_true rfl) d_Clock_greatestDivisor_53 ?_
    replace h := gLet_elim h; obtain ⟨x8, ex8, h⟩ := h
    refine x_topl ex8 ?_
    cases h
    exact x_lreturn 56 rfl d_Clock_greatestDivisor_56
theorem k_Clock_greatestDivisor {a0 : Int64} {a1 : Int64} {r : Int64} {mm res : gM} (h : F_Clock_greatestDivisor a0 a1 mm = some (r, res)) : ∀ (l : Launch) (E : gD), gLe mm res ∧ gMet l E Y_Clock_greatestDivisor y_Clock_greatestDivisor [.inr (.inl a0), .inr (.inl a1)] (some (.long r)) mm res :=
  fun l E => ⟨(w_Clock_greatestDivisor (l := l) (E := E) (n0 := 0) (s0 := 0) h).1, x_met (by decide +kernel) rfl rfl rfl (Nat.le_of_ble_eq_true rfl) (w_Clock_greatestDivisor h)⟩
theorem d_Clock_trueSecond_0 : decode b_Clock_trueSecond 0 = .ok (.aload_n 0, 1) := by decide +kernel
theorem d_Clock_trueSecond_1 : decode b_Clock_trueSecond 1 = .ok (.getfield 18, 3) := by decide +kernel
theorem d_Clock_trueSecond_4 : decode b_Clock_trueSecond 4 = .ok (.iconst 2, 1) := by decide +kernel
theorem d_Clock_trueSecond_5 : decode b_Clock_trueSecond 5 = .ok (.if_icmp .ge 42, 3) := by decide +kernel
theorem d_Clock_trueSecond_8 : decode b_Clock_trueSecond 8 = .ok (.aload_n 0, 1) := by decide +kernel
theorem d_Clock_trueSecond_9 : decode b_Clock_trueSecond 9 = .ok (.getfield 18, 3) := by decide +kernel
theorem d_Clock_trueSecond_12 : decode b_Clock_trueSecond 12 = .ok (.ifCond .ne 7, 3) := by decide +kernel
theorem d_Clock_trueSecond_15 : decode b_Clock_trueSecond 15 = .ok (.lconst 0, 1) := by decide +kernel
theorem d_Clock_trueSecond_16 : decode b_Clock_trueSecond 16 = .ok (.goto 16, 3) := by decide +kernel
theorem d_Clock_trueSecond_19 : decode b_Clock_trueSecond 19 = .ok (.aload_n 0, 1) := by decide +kernel
theorem d_Clock_trueSecond_20 : decode b_Clock_trueSecond 20 = .ok (.getfield 15, 3) := by decide +kernel
theorem d_Clock_trueSecond_23 : decode b_Clock_trueSecond 23 = .ok (.iconst 0, 1) := by decide +kernel
theorem d_Clock_trueSecond_24 : decode b_Clock_trueSecond 24 = .ok (.laload, 1) := by decide +kernel
theorem d_Clock_trueSecond_25 : decode b_Clock_trueSecond 25 = .ok (.aload_n 0, 1) := by decide +kernel
theorem d_Clock_trueSecond_26 : decode b_Clock_trueSecond 26 = .ok (.getfield 9, 3) := by decide +kernel
theorem d_Clock_trueSecond_29 : decode b_Clock_trueSecond 29 = .ok (.iconst 0, 1) := by decide +kernel
theorem d_Clock_trueSecond_30 : decode b_Clock_trueSecond 30 = .ok (.laload, 1) := by decide +kernel
theorem d_Clock_trueSecond_31 : decode b_Clock_trueSecond 31 = .ok (.lsub, 1) := by decide +kernel
theorem d_Clock_trueSecond_32 : decode b_Clock_trueSecond 32 = .ok (.lstore 4, 2) := by decide +kernel
theorem d_Clock_trueSecond_34 : decode b_Clock_trueSecond 34 = .ok (.iload_n 3, 1) := by decide +kernel
theorem d_Clock_trueSecond_35 : decode b_Clock_trueSecond 35 = .ok (.ifCond .ne 10, 3) := by decide +kernel
theorem d_Clock_trueSecond_38 : decode b_Clock_trueSecond 38 = .ok (.lload_n 1, 1) := by decide +kernel
theorem d_Clock_trueSecond_39 : decode b_Clock_trueSecond 39 = .ok (.lload 4, 2) := by decide +kernel
theorem d_Clock_trueSecond_41 : decode b_Clock_trueSecond 41 = .ok (.ladd, 1) := by decide +kernel
theorem d_Clock_trueSecond_42 : decode b_Clock_trueSecond 42 = .ok (.goto 4, 3) := by decide +kernel
theorem d_Clock_trueSecond_45 : decode b_Clock_trueSecond 45 = .ok (.lconst 1, 1) := by decide +kernel
theorem d_Clock_trueSecond_46 : decode b_Clock_trueSecond 46 = .ok (.lreturn, 1) := by decide +kernel
theorem d_Clock_trueSecond_47 : decode b_Clock_trueSecond 47 = .ok (.aload_n 0, 1) := by decide +kernel
theorem d_Clock_trueSecond_48 : decode b_Clock_trueSecond 48 = .ok (.lload_n 1, 1) := by decide +kernel
theorem d_Clock_trueSecond_49 : decode b_Clock_trueSecond 49 = .ok (.invokevirtual 22, 3) := by decide +kernel
theorem d_Clock_trueSecond_52 : decode b_Clock_trueSecond 52 = .ok (.istore 4, 2) := by decide +kernel
theorem d_Clock_trueSecond_54 : decode b_Clock_trueSecond 54 = .ok (.aload_n 0, 1) := by decide +kernel
theorem d_Clock_trueSecond_55 : decode b_Clock_trueSecond 55 = .ok (.getfield 9, 3) := by decide +kernel
theorem d_Clock_trueSecond_58 : decode b_Clock_trueSecond 58 = .ok (.iload 4, 2) := by decide +kernel
theorem d_Clock_trueSecond_60 : decode b_Clock_trueSecond 60 = .ok (.iconst 1, 1) := by decide +kernel
theorem d_Clock_trueSecond_61 : decode b_Clock_trueSecond 61 = .ok (.iadd, 1) := by decide +kernel
theorem d_Clock_trueSecond_62 : decode b_Clock_trueSecond 62 = .ok (.laload, 1) := by decide +kernel
theorem d_Clock_trueSecond_63 : decode b_Clock_trueSecond 63 = .ok (.aload_n 0, 1) := by decide +kernel
theorem d_Clock_trueSecond_64 : decode b_Clock_trueSecond 64 = .ok (.getfield 9, 3) := by decide +kernel
theorem d_Clock_trueSecond_67 : decode b_Clock_trueSecond 67 = .ok (.iload 4, 2) := by decide +kernel
theorem d_Clock_trueSecond_69 : decode b_Clock_trueSecond 69 = .ok (.laload, 1) := by decide +kernel
theorem d_Clock_trueSecond_70 : decode b_Clock_trueSecond 70 = .ok (.lsub, 1) := by decide +kernel
theorem d_Clock_trueSecond_71 : decode b_Clock_trueSecond 71 = .ok (.lstore 5, 2) := by decide +kernel
theorem d_Clock_trueSecond_73 : decode b_Clock_trueSecond 73 = .ok (.aload_n 0, 1) := by decide +kernel
theorem d_Clock_trueSecond_74 : decode b_Clock_trueSecond 74 = .ok (.getfield 15, 3) := by decide +kernel
theorem d_Clock_trueSecond_77 : decode b_Clock_trueSecond 77 = .ok (.iload 4, 2) := by decide +kernel
theorem d_Clock_trueSecond_79 : decode b_Clock_trueSecond 79 = .ok (.laload, 1) := by decide +kernel
theorem d_Clock_trueSecond_80 : decode b_Clock_trueSecond 80 = .ok (.lload 5, 2) := by decide +kernel
theorem d_Clock_trueSecond_82 : decode b_Clock_trueSecond 82 = .ok (.lmul, 1) := by decide +kernel
theorem d_Clock_trueSecond_83 : decode b_Clock_trueSecond 83 = .ok (.lload_n 1, 1) := by decide +kernel
theorem d_Clock_trueSecond_84 : decode b_Clock_trueSecond 84 = .ok (.aload_n 0, 1) := by decide +kernel
theorem d_Clock_trueSecond_85 : decode b_Clock_trueSecond 85 = .ok (.getfield 9, 3) := by decide +kernel
theorem d_Clock_trueSecond_88 : decode b_Clock_trueSecond 88 = .ok (.iload 4, 2) := by decide +kernel
theorem d_Clock_trueSecond_90 : decode b_Clock_trueSecond 90 = .ok (.laload, 1) := by decide +kernel
theorem d_Clock_trueSecond_91 : decode b_Clock_trueSecond 91 = .ok (.lsub, 1) := by decide +kernel
theorem d_Clock_trueSecond_92 : decode b_Clock_trueSecond 92 = .ok (.aload_n 0, 1) := by decide +kernel
theorem d_Clock_trueSecond_93 : decode b_Clock_trueSecond 93 = .ok (.getfield 15, 3) := by decide +kernel
theorem d_Clock_trueSecond_96 : decode b_Clock_trueSecond 96 = .ok (.iload 4, 2) := by decide +kernel
theorem d_Clock_trueSecond_98 : decode b_Clock_trueSecond 98 = .ok (.iconst 1, 1) := by decide +kernel
theorem d_Clock_trueSecond_99 : decode b_Clock_trueSecond 99 = .ok (.iadd, 1) := by decide +kernel
theorem d_Clock_trueSecond_100 : decode b_Clock_trueSecond 100 = .ok (.laload, 1) := by decide +kernel
theorem d_Clock_trueSecond_101 : decode b_Clock_trueSecond 101 = .ok (.aload_n 0, 1) := by decide +kernel
theorem d_Clock_trueSecond_102 : decode b_Clock_trueSecond 102 = .ok (.getfield 15, 3) := by decide +kernel
theorem d_Clock_trueSecond_105 : decode b_Clock_trueSecond 105 = .ok (.iload 4, 2) := by decide +kernel
theorem d_Clock_trueSecond_107 : decode b_Clock_trueSecond 107 = .ok (.laload, 1) := by decide +kernel
theorem d_Clock_trueSecond_108 : decode b_Clock_trueSecond 108 = .ok (.lsub, 1) := by decide +kernel
theorem d_Clock_trueSecond_109 : decode b_Clock_trueSecond 109 = .ok (.lmul, 1) := by decide +kernel
theorem d_Clock_trueSecond_110 : decode b_Clock_trueSecond 110 = .ok (.ladd, 1) := by decide +kernel
theorem d_Clock_trueSecond_111 : decode b_Clock_trueSecond 111 = .ok (.lstore 7, 2) := by decide +kernel
theorem d_Clock_trueSecond_113 : decode b_Clock_trueSecond 113 = .ok (.lload 7, 2) := by decide +kernel
theorem d_Clock_trueSecond_115 : decode b_Clock_trueSecond 115 = .ok (.lload 5, 2) := by decide +kernel
theorem d_Clock_trueSecond_117 : decode b_Clock_trueSecond 117 = .ok (.invokestatic 26, 3) := by decide +kernel
theorem d_Clock_trueSecond_120 : decode b_Clock_trueSecond 120 = .ok (.lstore 9, 2) := by decide +kernel
theorem d_Clock_trueSecond_122 : decode b_Clock_trueSecond 122 = .ok (.iload_n 3, 1) := by decide +kernel
theorem d_Clock_trueSecond_123 : decode b_Clock_trueSecond 123 = .ok (.ifCond .ne 11, 3) := by decide +kernel
theorem d_Clock_trueSecond_126 : decode b_Clock_trueSecond 126 = .ok (.lload 7, 2) := by decide +kernel
theorem d_Clock_trueSecond_128 : decode b_Clock_trueSecond 128 = .ok (.lload 9, 2) := by decide +kernel
theorem d_Clock_trueSecond_130 : decode b_Clock_trueSecond 130 = .ok (.ldiv, 1) := by decide +kernel
theorem d_Clock_trueSecond_131 : decode b_Clock_trueSecond 131 = .ok (.goto 8, 3) := by decide +kernel
theorem d_Clock_trueSecond_134 : decode b_Clock_trueSecond 134 = .ok (.lload 5, 2) := by decide +kernel
theorem d_Clock_trueSecond_136 : decode b_Clock_trueSecond 136 = .ok (.lload 9, 2) := by decide +kernel
theorem d_Clock_trueSecond_138 : decode b_Clock_trueSecond 138 = .ok (.ldiv, 1) := by decide +kernel
theorem d_Clock_trueSecond_139 : decode b_Clock_trueSecond 139 = .ok (.lreturn, 1) := by decide +kernel
def F_Clock_trueSecond (b : Nat) (a0 : Int64) (a1 : Int32) (mm : gM) : Option (Int64 × gM) :=
  gb1 (gfI 3 2 (some b) mm) fun v1 =>
  if (2 : Int32) ≤ v1 then (
    gb1 (grc 3 (some b) mm) fun b7 =>
    gb2 (F_Clock_lineFor b7 a0 mm) fun v4 mm5 =>
    gb1 (gfR 3 0 (some b) mm5) fun v9 =>
    gb1 (gaL 1 v9 (v4 + (1 : Int32)) mm5) fun v11 =>
    gb1 (gfR 3 0 (some b) mm5) fun v13 =>
    gb1 (gaL 1 v13 v4 mm5) fun v15 =>
    gLet (v11 - v15) fun x17 =>
    gb1 (gfR 3 1 (some b) mm5) fun v18 =>
    gb1 (gaL 1 v18 v4 mm5) fun v20 =>
    gb1 (gfR 3 0 (some b) mm5) fun v22 =>
    gb1 (gaL 1 v22 v4 mm5) fun v24 =>
    gb1 (gfR 3 1 (some b) mm5) fun v26 =>
    gb1 (gaL 1 v26 (v4 + (1 : Int32)) mm5) fun v28 =>
    gb1 (gfR 3 1 (some b) mm5) fun v30 =>
    gb1 (gaL 1 v30 v4 mm5) fun v32 =>
    gLet ((v20 * x17) + ((a0 - v24) * (v28 - v32))) fun x34 =>
    gb2 (F_Clock_greatestDivisor x34 x17 mm5) fun v35 mm36 =>
    if a1 = 0 then (
      gIf (¬ v35 = 0) (
      some ((x34 / v35), mm36)))
    else (
      gIf (¬ v35 = 0) (
      some ((x17 / v35), mm36))))
  else (
    gb1 (gfI 3 2 (some b) mm) fun v41 =>
    gLet (fun (p1 : Int64) (p3 : Int32) (q0 : Int64) (mm : gM) =>
      if p3 = 0 then (
        some ((p1 + q0), mm))
      else (
        some ((1 : Int64), mm))) fun J32 =>
    if v41 = 0 then (
      J32 a0 a1 (0 : Int64) mm)
    else (
      gb1 (gfR 3 1 (some b) mm) fun v45 =>
      gb1 (gaL 1 v45 (0 : Int32) mm) fun v47 =>
      gb1 (gfR 3 0 (some b) mm) fun v49 =>
      gb1 (gaL 1 v49 (0 : Int32) mm) fun v51 =>
      J32 a0 a1 (v47 - v51) mm))
set_option maxHeartbeats 8000000 in
set_option maxRecDepth 100000 in
theorem w_Clock_trueSecond {l : Launch} {E : gD} {n0 s0 : Nat} {b : Nat} {a0 : Int64} {a1 : Int32} {r : Int64} {mm res : gM} (h : F_Clock_trueSecond b a0 a1 mm = some (r, res)) : xX l E Y_Clock_trueSecond n0 s0 (some (.long r)) res 0 [(0, .inr (.inr (some b))), (1, .inr (.inl a0)), (3, .inl a1)] [] mm := by
  unfold F_Clock_trueSecond at h
  refine x_aloadn 0 0 d_Clock_trueSecond_0 rfl rfl ?_
  replace h := gb1_elim h; obtain ⟨v1, h2, h⟩ := h
  refine x_getI 1 h2 fl_Clock_18 d_Clock_trueSecond_1 ?_
  refine x_iconst 4 d_Clock_trueSecond_4 (v := (2 : Int32)) (by decide +kernel) ?_
  refine x_icmp_ge 5 47 d_Clock_trueSecond_5 (by decide) (fun c3 => ?_) (fun c3 => ?_)
  · replace h := gif_t h c3
    refine x_aloadn 47 0 d_Clock_trueSecond_47 rfl rfl ?_
    refine x_lloadn 48 1 d_Clock_trueSecond_48 rfl rfl ?_
    replace h := gb1_elim h; obtain ⟨b7, h8, h⟩ := h
    replace h := gb2_elim h; obtain ⟨v4, mm5, h6, h⟩ := h
    refine x_callV 49 1 (as := [.inr (.inl a0)]) (st' := []) (rs := [.inl v4]) (k_Clock_lineFor h6) rfl cf_Clock_22 ⟨rfl, by decide +kernel, by decide, by decide, Nat.le_of_ble_eq_true rfl⟩ h8 rfl d_Clock_trueSecond_49 ?_
    refine x_istore 52 (lv' := [(4, .inl v4), (0, .inr (.inr (some b))), (1, .inr (.inl a0)), (3, .inl a1)]) d_Clock_trueSecond_52 (by decide) rfl ?_
    refine x_aloadn 54 1 d_Clock_trueSecond_54 rfl rfl ?_
    replace h := gb1_elim h; obtain ⟨v9, h10, h⟩ := h
    refine x_getR 55 h10 fl_Clock_9 d_Clock_trueSecond_55 ?_
    refine x_iload 58 0 d_Clock_trueSecond_58 rfl ?_
    refine x_iconst 60 d_Clock_trueSecond_60 (v := (1 : Int32)) (by decide +kernel) ?_
    refine x_iadd 61 d_Clock_trueSecond_61 ?_
    replace h := gb1_elim h; obtain ⟨v11, h12, h⟩ := h
    refine x_lald 62 rfl h12 d_Clock_trueSecond_62 ?_
    refine x_aloadn 63 1 d_Clock_trueSecond_63 rfl rfl ?_
    replace h := gb1_elim h; obtain ⟨v13, h14, h⟩ := h
    refine x_getR 64 h14 fl_Clock_9 d_Clock_trueSecond_64 ?_
    refine x_iload 67 0 d_Clock_trueSecond_67 rfl ?_
    replace h := gb1_elim h; obtain ⟨v15, h16, h⟩ := h
    refine x_lald 69 rfl h16 d_Clock_trueSecond_69 ?_
    refine x_lsub 70 d_Clock_trueSecond_70 ?_
    replace h := gLet_elim h; obtain ⟨x17, ex17, h⟩ := h
    refine x_topl ex17 ?_
    refine x_lstore 71 (lv' := [(5, .inr (.inl x17)), (4, .inl v4), (0, .inr (.inr (some b))), (1, .inr (.inl a0)), (3, .inl a1)]) d_Clock_trueSecond_71 (by decide) rfl ?_
    refine x_aloadn 73 2 d_Clock_trueSecond_73 rfl rfl ?_
    replace h := gb1_elim h; obtain ⟨v18, h19, h⟩ := h
    refine x_getR 74 h19 fl_Clock_15 d_Clock_trueSecond_74 ?_
    refine x_iload 77 1 d_Clock_trueSecond_77 rfl ?_
    replace h := gb1_elim h; obtain ⟨v20, h21, h⟩ := h
    refine x_lald 79 rfl h21 d_Clock_trueSecond_79 ?_
    refine x_lload 80 0 d_Clock_trueSecond_80 rfl ?_
    refine x_lmul 82 d_Clock_trueSecond_82 ?_
    refine x_lloadn 83 3 d_Clock_trueSecond_83 rfl rfl ?_
    refine x_aloadn 84 2 d_Clock_trueSecond_84 rfl rfl ?_
    replace h := gb1_elim h; obtain ⟨v22, h23, h⟩ := h
    refine x_getR 85 h23 fl_Clock_9 d_Clock_trueSecond_85 ?_
    refine x_iload 88 1 d_Clock_trueSecond_88 rfl ?_
    replace h := gb1_elim h; obtain ⟨v24, h25, h⟩ := h
    refine x_lald 90 rfl h25 d_Clock_trueSecond_90 ?_
    refine x_lsub 91 d_Clock_trueSecond_91 ?_
    refine x_aloadn 92 2 d_Clock_trueSecond_92 rfl rfl ?_
    replace h := gb1_elim h; obtain ⟨v26, h27, h⟩ := h
    refine x_getR 93 h27 fl_Clock_15 d_Clock_trueSecond_93 ?_
    refine x_iload 96 1 d_Clock_trueSecond_96 rfl ?_
    refine x_iconst 98 d_Clock_trueSecond_98 (v := (1 : Int32)) (by decide +kernel) ?_
    refine x_iadd 99 d_Clock_trueSecond_99 ?_
    replace h := gb1_elim h; obtain ⟨v28, h29, h⟩ := h
    refine x_lald 100 rfl h29 d_Clock_trueSecond_100 ?_
    refine x_aloadn 101 2 d_Clock_trueSecond_101 rfl rfl ?_
    replace h := gb1_elim h; obtain ⟨v30, h31, h⟩ := h
    refine x_getR 102 h31 fl_Clock_15 d_Clock_trueSecond_102 ?_
    refine x_iload 105 1 d_Clock_trueSecond_105 rfl ?_
    replace h := gb1_elim h; obtain ⟨v32, h33, h⟩ := h
    refine x_lald 107 rfl h33 d_Clock_trueSecond_107 ?_
    refine x_lsub 108 d_Clock_trueSecond_108 ?_
    refine x_lmul 109 d_Clock_trueSecond_109 ?_
    refine x_ladd 110 d_Clock_trueSecond_110 ?_
    replace h := gLet_elim h; obtain ⟨x34, ex34, h⟩ := h
    refine x_topl ex34 ?_
    refine x_lstore 111 (lv' := [(7, .inr (.inl x34)), (5, .inr (.inl x17)), (4, .inl v4), (0, .inr (.inr (some b))), (1, .inr (.inl a0)), (3, .inl a1)]) d_Clock_trueSecond_111 (by decide) rfl ?_
    refine x_lload 113 0 d_Clock_trueSecond_113 rfl ?_
    refine x_lload 115 1 d_Clock_trueSecond_115 rfl ?_
    replace h := gb2_elim h; obtain ⟨v35, mm36, h37, h⟩ := h
    refine x_callS 117 2 (as := [.inr (.inl x34), .inr (.inl x17)]) (st' := []) (rs := [.inr (.inl v35)]) (k_Clock_greatestDivisor h37) rfl cf_Clock_26 ⟨rfl, by decide +kernel, by decide, by decide, Nat.le_of_ble_eq_true rfl⟩ rfl d_Clock_trueSecond_117 ?_
    refine x_lstore 120 (lv' := [(9, .inr (.inl v35)), (7, .inr (.inl x34)), (5, .inr (.inl x17)), (4, .inl v4), (0, .inr (.inr (some b))), (1, .inr (.inl a0)), (3, .inl a1)]) d_Clock_trueSecond_120 (by decide) rfl ?_
    refine x_iloadn 122 6 d_Clock_trueSecond_122 rfl rfl ?_
    refine x_if_ne 123 134 d_Clock_trueSecond_123 (by decide) (fun c38 => ?_) (fun c38 => ?_)
    · replace h := gif_t h c38
      refine x_lload 126 1 d_Clock_trueSecond_126 rfl ?_
      refine x_lload 128 0 d_Clock_trueSecond_128 rfl ?_
      replace h := gIf_elim h; obtain ⟨c39, h⟩ := h
      refine x_ldiv 130 c39 d_Clock_trueSecond_130 ?_
      refine x_goto 131 139 d_Clock_trueSecond_131 (by decide) ?_
      cases h
      exact x_lreturn 139 rfl d_Clock_trueSecond_139
    · replace h := gif_f h c38
      refine x_lload 134 2 d_Clock_trueSecond_134 rfl ?_
      refine x_lload 136 0 d_Clock_trueSecond_136 rfl ?_
      replace h := gIf_elim h; obtain ⟨c40, h⟩ := h
      refine x_ldiv 138 c40 d_Clock_trueSecond_138 ?_
      cases h
      exact x_lreturn 139 rfl d_Clock_trueSecond_139
  · replace h := gif_f h c3
    refine x_aloadn 8 0 d_Clock_trueSecond_8 rfl rfl ?_
    replace h := gb1_elim h; obtain ⟨v41, h42, h⟩ := h
    refine x_getI 9 h42 fl_Clock_18 d_Clock_trueSecond_9 ?_
    replace h := gLet_elim h; obtain ⟨J32, hJ32, h⟩ := h
    have kJ32 : ∀ (p1 : Int64) (p3 : Int32) (q0 : Int64) (mm : gM), J32 p1 p3 q0 mm = some (r, res) → xX l E Y_Clock_trueSecond n0 s0 (some (.long r)) res 32 [(1, .inr (.inl p1)), (3, .inl p3)] [.inr (.inl q0)] mm := by
      intro p1 p3 q0 mm h
      rw [hJ32] at h
      refine x_lstore 32 (lv' := [(4, .inr (.inl q0)), (1, .inr (.inl p1)), (3, .inl p3)]) d_Clock_trueSecond_32 (by decide) rfl ?_
      refine x_iloadn 34 2 d_Clock_trueSecond_34 rfl rfl ?_
      refine x_if_ne 35 45 d_Clock_trueSecond_35 (by decide) (fun c43 => ?_) (fun c43 => ?_)
      · replace h := gif_t h c43
        refine x_lloadn 38 1 d_Clock_trueSecond_38 rfl rfl ?_
        refine x_lload 39 0 d_Clock_trueSecond_39 rfl ?_
        refine x_ladd 41 d_Clock_trueSecond_41 ?_
        refine x_goto 42 46 d_Clock_trueSecond_42 (by decide) ?_
        cases h
        exact x_lreturn 46 rfl d_Clock_trueSecond_46
      · replace h := gif_f h c43
        refine x_lconst 45 d_Clock_trueSecond_45 (v := (1 : Int64)) (by decide +kernel) ?_
        cases h
        exact x_lreturn 46 rfl d_Clock_trueSecond_46
    refine x_if_ne 12 19 d_Clock_trueSecond_12 (by decide) (fun c44 => ?_) (fun c44 => ?_)
    · replace h := gif_t h c44
      refine x_lconst 15 d_Clock_trueSecond_15 (v := (0 : Int64)) (by decide +kernel) ?_
      refine x_goto 16 32 d_Clock_trueSecond_16 (by decide) ?_
      refine x_sub [1, 2] rfl ?_
      exact kJ32 _ _ _ _ h
    · replace h := gif_f h c44
      refine x_aloadn 19 0 d_Clock_trueSecond_19 rfl rfl ?_
      replace h := gb1_elim h; obtain ⟨v45, h46, h⟩ := h
      refine x_getR 20 h46 fl_Clock_15 d_Clock_trueSecond_20 ?_
      refine x_iconst 23 d_Clock_trueSecond_23 (v := (0 : Int32)) (by decide +kernel) ?_
      replace h := gb1_elim h; obtain ⟨v47, h48, h⟩ := h
      refine x_lald 24 rfl h48 d_Clock_trueSecond_24 ?_
      refine x_aloadn 25 0 d_Clock_trueSecond_25 rfl rfl ?_
      replace h := gb1_elim h; obtain ⟨v49, h50, h⟩ := h
      refine x_getR 26 h50 fl_Clock_9 d_Clock_trueSecond_26 ?_
      refine x_iconst 29 d_Clock_trueSecond_29 (v := (0 : Int32)) (by decide +kernel) ?_
      replace h := gb1_elim h; obtain ⟨v51, h52, h⟩ := h
      refine x_lald 30 rfl h52 d_Clock_trueSecond_30 ?_
      refine x_lsub 31 d_Clock_trueSecond_31 ?_
      refine x_sub [1, 2] rfl ?_
      exact kJ32 _ _ _ _ h
theorem k_Clock_trueSecond {b : Nat} {a0 : Int64} {a1 : Int32} {r : Int64} {mm res : gM} (h : F_Clock_trueSecond b a0 a1 mm = some (r, res)) : ∀ (l : Launch) (E : gD), gLe mm res ∧ gMet l E Y_Clock_trueSecond y_Clock_trueSecond [.inr (.inr (some b)), .inr (.inl a0), .inl a1] (some (.long r)) mm res :=
  fun l E => ⟨(w_Clock_trueSecond (l := l) (E := E) (n0 := 0) (s0 := 0) h).1, x_met (by decide +kernel) rfl rfl rfl (Nat.le_of_ble_eq_true rfl) (w_Clock_trueSecond h)⟩
theorem d_S_corrected_0 : decode b_S_corrected 0 = .ok (.aload_n 0, 1) := by decide +kernel
theorem d_S_corrected_1 : decode b_S_corrected 1 = .ok (.iload_n 1, 1) := by decide +kernel
theorem d_S_corrected_2 : decode b_S_corrected 2 = .ok (.invokevirtual 56, 3) := by decide +kernel
theorem d_S_corrected_5 : decode b_S_corrected 5 = .ok (.astore 5, 2) := by decide +kernel
theorem d_S_corrected_7 : decode b_S_corrected 7 = .ok (.aload 5, 2) := by decide +kernel
theorem d_S_corrected_9 : decode b_S_corrected 9 = .ok (.ifnull 21, 3) := by decide +kernel
theorem d_S_corrected_12 : decode b_S_corrected 12 = .ok (.lload_n 2, 1) := by decide +kernel
theorem d_S_corrected_13 : decode b_S_corrected 13 = .ok (.invokestatic 186, 3) := by decide +kernel
theorem d_S_corrected_16 : decode b_S_corrected 16 = .ok (.ifCond .eq 14, 3) := by decide +kernel
theorem d_S_corrected_19 : decode b_S_corrected 19 = .ok (.iload 4, 2) := by decide +kernel
theorem d_S_corrected_21 : decode b_S_corrected 21 = .ok (.ifCond .lt 9, 3) := by decide +kernel
theorem d_S_corrected_24 : decode b_S_corrected 24 = .ok (.iload 4, 2) := by decide +kernel
theorem d_S_corrected_26 : decode b_S_corrected 26 = .ok (.iconst 1, 1) := by decide +kernel
theorem d_S_corrected_27 : decode b_S_corrected 27 = .ok (.if_icmp .le 7, 3) := by decide +kernel
theorem d_S_corrected_30 : decode b_S_corrected 30 = .ok (.ldc2_w 198, 3) := by decide +kernel
theorem d_S_corrected_33 : decode b_S_corrected 33 = .ok (.lreturn, 1) := by decide +kernel
theorem d_S_corrected_34 : decode b_S_corrected 34 = .ok (.aload 5, 2) := by decide +kernel
theorem d_S_corrected_36 : decode b_S_corrected 36 = .ok (.getfield 189, 3) := by decide +kernel
theorem d_S_corrected_39 : decode b_S_corrected 39 = .ok (.lload_n 2, 1) := by decide +kernel
theorem d_S_corrected_40 : decode b_S_corrected 40 = .ok (.iload 4, 2) := by decide +kernel
theorem d_S_corrected_42 : decode b_S_corrected 42 = .ok (.invokevirtual 200, 3) := by decide +kernel
theorem d_S_corrected_45 : decode b_S_corrected 45 = .ok (.lreturn, 1) := by decide +kernel
def F_S_corrected (b : Nat) (a0 : Int32) (a1 : Int64) (a2 : Int32) (mm : gM) : Option (Int64 × gM) :=
  gb1 (grc 0 (some b) mm) fun b4 =>
  gb2 (F_S_tellerAt b4 a0 mm) fun v1 mm2 =>
  if v1 = none then (
    some ((-1 : Int64), mm2))
  else (
    gb2 (F_S_isSecond a1 mm2) fun v7 mm8 =>
    if v7 = 0 then (
      some ((-1 : Int64), mm8))
    else (
      if a2 < 0 then (
        some ((-1 : Int64), mm8))
      else (
        if a2 ≤ (1 : Int32) then (
          gb1 (gfR 1 2 v1 mm8) fun v13 =>
          gb1 (grc 3 v13 mm8) fun b18 =>
          gb2 (F_Clock_trueSecond b18 a1 a2 mm8) fun v15 mm16 =>
          some (v15, mm16))
        else (
          some ((-1 : Int64), mm8)))))
set_option maxHeartbeats 8000000 in
set_option maxRecDepth 100000 in
theorem w_S_corrected {l : Launch} {E : gD} {n0 s0 : Nat} {b : Nat} {a0 : Int32} {a1 : Int64} {a2 : Int32} {r : Int64} {mm res : gM} (h : F_S_corrected b a0 a1 a2 mm = some (r, res)) : xX l E Y_S_corrected n0 s0 (some (.long r)) res 0 [(0, .inr (.inr (some b))), (1, .inl a0), (2, .inr (.inl a1)), (4, .inl a2)] [] mm := by
  unfold F_S_corrected at h
  refine x_aloadn 0 0 d_S_corrected_0 rfl rfl ?_
  refine x_iloadn 1 1 d_S_corrected_1 rfl rfl ?_
  replace h := gb1_elim h; obtain ⟨b4, h5, h⟩ := h
  replace h := gb2_elim h; obtain ⟨v1, mm2, h3, h⟩ := h
  refine x_callV 2 1 (as := [.inl a0]) (st' := []) (rs := [.inr (.inr v1)]) (k_S_tellerAt h3) rfl cf_S_56 ⟨rfl, by decide +kernel, by decide, by decide, Nat.le_of_ble_eq_true rfl⟩ h5 rfl d_S_corrected_2 ?_
  refine x_astore 5 (lv' := [(5, .inr (.inr v1)), (0, .inr (.inr (some b))), (1, .inl a0), (2, .inr (.inl a1)), (4, .inl a2)]) d_S_corrected_5 (by decide) rfl ?_
  refine x_aload 7 0 d_S_corrected_7 rfl ?_
  refine x_ifnull 9 30 d_S_corrected_9 (by decide) (fun c6 => ?_) (fun c6 => ?_)
  · replace h := gif_t h c6
    refine x_ldc2 30 d_S_corrected_30 (v := (-1 : Int64)) (gT_in3 39 rfl) ?_
    cases h
    exact x_lreturn 33 rfl d_S_corrected_33
  · replace h := gif_f h c6
    refine x_lloadn 12 3 d_S_corrected_12 rfl rfl ?_
    replace h := gb2_elim h; obtain ⟨v7, mm8, h9, h⟩ := h
    refine x_callS 13 1 (as := [.inr (.inl a1)]) (st' := []) (rs := [.inl v7]) (k_S_isSecond h9) rfl cf_S_186 ⟨rfl, by decide +kernel, by decide, by decide, Nat.le_of_ble_eq_true rfl⟩ rfl d_S_corrected_13 ?_
    refine x_if_eq 16 30 d_S_corrected_16 (by decide) (fun c10 => ?_) (fun c10 => ?_)
    · replace h := gif_t h c10
      refine x_ldc2 30 d_S_corrected_30 (v := (-1 : Int64)) (gT_in3 39 rfl) ?_
      cases h
      exact x_lreturn 33 rfl d_S_corrected_33
    · replace h := gif_f h c10
      refine x_iload 19 4 d_S_corrected_19 rfl ?_
      refine x_if_lt 21 30 d_S_corrected_21 (by decide) (fun c11 => ?_) (fun c11 => ?_)
      · replace h := gif_t h c11
        refine x_ldc2 30 d_S_corrected_30 (v := (-1 : Int64)) (gT_in3 39 rfl) ?_
        cases h
        exact x_lreturn 33 rfl d_S_corrected_33
      · replace h := gif_f h c11
        refine x_iload 24 4 d_S_corrected_24 rfl ?_
        refine x_iconst 26 d_S_corrected_26 (v := (1 : Int32)) (by decide +kernel) ?_
        refine x_icmp_le 27 34 d_S_corrected_27 (by decide) (fun c12 => ?_) (fun c12 => ?_)
        · replace h := gif_t h c12
          refine x_aload 34 0 d_S_corrected_34 rfl ?_
          replace h := gb1_elim h; obtain ⟨v13, h14, h⟩ := h
          refine x_getR 36 h14 fl_S_189 d_S_corrected_36 ?_
          refine x_lloadn 39 3 d_S_corrected_39 rfl rfl ?_
          refine x_iload 40 4 d_S_corrected_40 rfl ?_
          replace h := gb1_elim h; obtain ⟨b18, h19, h⟩ := h
          replace h := gb2_elim h; obtain ⟨v15, mm16, h17, h⟩ := h
          refine x_callV 42 2 (as := [.inr (.inl a1), .inl a2]) (st' := []) (rs := [.inr (.inl v15)]) (k_Clock_trueSecond h17) rfl cf_S_200 ⟨rfl, by decide +kernel, by decide, by decide, Nat.le_of_ble_eq_true rfl⟩ h19 rfl d_S_corrected_42 ?_
          cases h
          exact x_lreturn 45 rfl d_S_corrected_45
        · replace h := gif_f h c12
          refine x_ldc2 30 d_S_corrected_30 (v := (-1 : Int64)) (gT_in3 39 rfl) ?_
          cases h
          exact x_lreturn 33 rfl d_S_corrected_33
theorem k_S_corrected {b : Nat} {a0 : Int32} {a1 : Int64} {a2 : Int32} {r : Int64} {mm res : gM} (h : F_S_corrected b a0 a1 a2 mm = some (r, res)) : ∀ (l : Launch) (E : gD), gLe mm res ∧ gMet l E Y_S_corrected y_S_corrected [.inr (.inr (some b)), .inl a0, .inr (.inl a1), .inl a2] (some (.long r)) mm res :=
  fun l E => ⟨(w_S_corrected (l := l) (E := E) (n0 := 0) (s0 := 0) h).1, x_met (by decide +kernel) rfl rfl rfl (Nat.le_of_ble_eq_true rfl) (w_S_corrected h)⟩
