/-! new cells become the state's -/
section GR
variable {n0 : Nat} {σ σ' : Nat → Nat → Nat} {τ τ' : Nat → Nat → Int64} {ad ad' : Nat → Nat → Nat} {mm mm' : gM}
theorem Rep.n0le (h : Rep n0 σ τ ad mm) : n0 ≤ mm.2.1 := by
  obtain ⟨h1, h2⟩ := h.2.2.1 0 0 u0
  omega
theorem Rep.grow (h : Rep n0 σ τ ad mm) (hc : ∀ q, q < mm.2.1 → mm'.1 q = mm.1 q) (hn : mm.2.1 ≤ mm'.2.1) (hfr : ∀ q, mm'.2.1 ≤ q → mm'.1 q = none) (hst : mm'.2.2.2 = mm.2.2.2) : Rep n0 σ τ ad mm' := by
  have hn0 := h.n0le
  obtain ⟨h1, h2, h3, h4, h5, h6, h7⟩ := h
  refine ⟨fun k i hu => ?_, h2, fun k i hu => ?_, hfr, fun q hq => ?_, by rw [hst]; exact h6, by rw [hst]; exact h7⟩
  · obtain ⟨c, c1, c2⟩ := h1 k i hu
    have := (h3 k i hu).2
    exact ⟨c, by rw [hc _ this]; exact c1, by rw [hst]; exact c2⟩
  · have := h3 k i hu
    omega
  · rw [hc q (by omega)]
    exact h5 q hq
theorem Rep.adopt (h : Rep n0 σ τ ad mm) {q0 : Nat} (hq0 : n0 ≤ q0) (hq : ∀ k i, ru σ k i → ad k i < q0)
    (hru : ∀ k i, ru σ' k i → (ru σ k i ∧ ad' k i = ad k i) ∨ (q0 ≤ ad' k i ∧ ad' k i < mm.2.1 ∧ ∃ c, mm.1 (ad' k i) = some c ∧ rgd σ' τ' (mm.2.2.2.1 0) ad' k i c))
    (hinj : ∀ k i k' i', ru σ' k i → ru σ' k' i' → q0 ≤ ad' k i → ad' k i = ad' k' i' → k = k' ∧ i = i')
    (hg : ∀ k i c, ru σ k i → ru σ' k i → rgd σ τ (mm.2.2.2.1 0) ad k i c → rgd σ' τ' (mm.2.2.2.1 0) ad' k i c) : Rep n0 σ' τ' ad' mm := by
  obtain ⟨h1, h2, h3, h4, h5, h6, h7⟩ := h
  refine ⟨fun k i hu => ?_, fun k i k' i' hu hu' e => ?_, fun k i hu => ?_, h4, h5, h6, h7⟩
  · rcases hru k i hu with ⟨a, b⟩ | ⟨a, b, c⟩
    · obtain ⟨c, c1, c2⟩ := h1 k i a
      exact ⟨c, by rw [b]; exact c1, hg k i c a hu c2⟩
    · exact c
  · rcases hru k i hu with ⟨a, b⟩ | ⟨a, b, c⟩
    · rcases hru k' i' hu' with ⟨a', b'⟩ | ⟨a', b', c'⟩
      · exact h2 k i k' i' a a' (by rw [← b, ← b']; exact e)
      · have := hinj k' i' k i hu' hu a' e.symm
        exact ⟨this.1.symm, this.2.symm⟩
    · exact hinj k i k' i' hu hu' a e
  · rcases hru k i hu with ⟨a, b⟩ | ⟨a, b, c⟩
    · rw [b]
      exact h3 k i a
    · exact ⟨by omega, b⟩
theorem Rep.gok (h : Rep n0 σ τ ad mm) {l e : Nat} (hu : ru σ (rek l) e) : gok gObs (some (ad (rek l) e)) mm = true := by
  have hr : rek l = 11 ∨ rek l = 20 ∨ rek l = 30 ∨ rek l = 10 := by
    unfold rek
    split <;> omega
  rcases hr with z | z | z | z
  · rw [z] at hu ⊢
    exact gok_eq (h.oTeller hu.1) (by decide)
  · rw [z] at hu ⊢
    exact gok_eq (h.oSet hu.1) (by decide)
  · rw [z] at hu ⊢
    exact gok_eq (h.oSettling hu.1) (by decide)
  · rw [z] at hu ⊢
    exact gok_eq (h.oTelling hu.1) (by decide)
theorem gcap_le {c : Nat} (h : c ≤ 1000) : gcap c ≤ 1500 := by
  unfold gcap
  split <;> omega
/-- one more at a list's end -/
theorem Rep.app (h : Rep n0 σ τ ad mm) {l e : Nat} (hl : l < 3 + σ 42 1) (hu : ru σ (rek l) e) (hel : ∀ j, j < σ 40 l → ru σ (rek l) (σ 41 (l * 1000 + j))) (hn : σ 40 l ≤ 500) (hlen : ∀ i, ru σ 2 i → σ 40 i ≤ 1000) : ∃ (mm' : gM) (ad' : Nat → Nat → Nat), F_AL_add (ad 1 l) (some (ad (rek l) e)) mm = some (1, mm') ∧ Rep n0 (uS (uS σ 40 l (σ 40 l + 1)) 41 (l * 1000 + σ 40 l) e) τ ad' mm' ∧ (∀ k i, k ≠ 2 → ad' k i = ad k i) ∧ mm'.2.1 ≤ mm.2.1 + 1 ∧ mm'.2.2.1 ≤ mm.2.2.1 + 1500 ∧ mm'.2.2.2 = mm.2.2.2 := by
  obtain ⟨a, c, g, hL, hg, ha⟩ := h.list hl
  obtain ⟨mm', e', c', g', m', p1, p2, p3, p4, p5, p6, p7, p8, p9, p10⟩ := AL_add_eq hL hn (fun j hj => by rw [hg j hj]; exact h.gok (hel j hj)) (h.gok hu) h.2.2.2.1
  have hst : mm'.2.2.2 = mm.2.2.2 := by
    rcases p10 with ⟨-, -, q⟩ | ⟨-, q⟩
    · rw [q]
    · rw [q]
  have he : (0 < σ 40 l ∧ e' = ad 2 l ∧ mm'.2.1 = mm.2.1) ∨ (e' = mm.2.1 ∧ mm'.2.1 = mm.2.1 + 1) := by
    rcases p10 with ⟨q1, q2, q3⟩ | ⟨q1, q2⟩
    · left
      have hpos : 0 < σ 40 l := by
        rcases Nat.eq_zero_or_pos (σ 40 l) with z | z
        · exfalso
          obtain ⟨-, -, -, -, -, -, w | w⟩ := hL
          · omega
          · rw [if_pos z] at ha
            rw [ha, h.2.2.2.2.1 _ h.2.2.2.2.2.1] at w
            cases w.2
        · exact z
      rw [if_neg (by omega)] at ha
      exact ⟨hpos, by rw [q2, ha], by rw [q3]⟩
    · exact Or.inr ⟨q1, by rw [q2]⟩
  refine ⟨mm', fun k i => if k = 2 ∧ i = l then e' else ad k i, p1, ?_, fun k i hk => if_neg (fun w => hk w.1), ?_, ?_, hst⟩
  · refine h.relist (w := fun j => if j = σ 40 l then e else σ 41 (l * 1000 + j)) hl p2 p3 (by omega) p4 p5 p6 (fun j hj => ?_) he p9 hst (fun f j f1 f2 => ?_) (fun j hj => ?_) ?_ (fun j hj => ?_) (fun j hj => ?_) (fun k i hk => if_neg (fun w => by omega)) (if_pos ⟨rfl, rfl⟩) hlen
    · by_cases z : j = σ 40 l
      · rw [z, p8]
        simp only [if_true]
      · rw [p7 j (by omega), hg j (by omega)]
        simp only [if_neg z]
    · rw [uS_f f2, uS_f f1]
    · rw [uS_f (by omega), uS_i hj]
    · rw [uS_f (by omega), uS_s]
    · rw [uS_i (by omega), uS_f (by omega)]
    · by_cases z : j = σ 40 l
      · rw [z, uS_s]
        simp only [if_true]
      · rw [uS_i (by omega), uS_f (by omega)]
        simp only [if_neg z]
  · rcases he with ⟨-, -, q⟩ | ⟨-, q⟩ <;> omega
  · have := gcap_le hL.2.2.1
    rcases p10 with ⟨-, -, q⟩ | ⟨-, q⟩
    · rw [q]; omega
    · rw [q]
      show mm.2.2.1 + gcap c ≤ _
      omega
/-- one more within a list -/
theorem Rep.ins (h : Rep n0 σ τ ad mm) {l e p : Nat} (hl : l < 3 + σ 42 1) (hu : ru σ (rek l) e) (hel : ∀ j, j < σ 40 l → ru σ (rek l) (σ 41 (l * 1000 + j))) (hn : σ 40 l ≤ 500) (hp : p ≤ σ 40 l) (hlen : ∀ i, ru σ 2 i → σ 40 i ≤ 1000) : ∃ (mm' : gM) (ad' σ' : Nat → Nat → Nat), F_AL_add3 (ad 1 l) (nI p) (some (ad (rek l) e)) mm = some ((), mm') ∧ Rep n0 σ' τ ad' mm' ∧ (∀ f, f ≠ 40 → f ≠ 41 → σ' f = σ f) ∧ (∀ j, σ' 40 j = if j = l then σ 40 l + 1 else σ 40 j) ∧ (∀ j, ¬ (l * 1000 ≤ j ∧ j < l * 1000 + 1000) → σ' 41 j = σ 41 j) ∧ (∀ j, j ≤ σ 40 l → σ' 41 (l * 1000 + j) = if j < p then σ 41 (l * 1000 + j) else if j = p then e else σ 41 (l * 1000 + (j - 1))) ∧ (∀ k i, k ≠ 2 → ad' k i = ad k i) ∧ mm'.2.1 ≤ mm.2.1 + 1 ∧ mm'.2.2.1 ≤ mm.2.2.1 + 1500 ∧ mm'.2.2.2 = mm.2.2.2 := by
  obtain ⟨a, c, g, hL, hg, ha⟩ := h.list hl
  obtain ⟨mm', e', c', g', m', p1, p2, p3, p4, p5, p6, p7, p8, p8', p9, p10⟩ := AL_ins_eq hL hp hn (fun j hj => by rw [hg j hj]; exact h.gok (hel j hj)) (h.gok hu) h.2.2.2.1
  have hst : mm'.2.2.2 = mm.2.2.2 := by
    rcases p10 with ⟨-, -, q⟩ | ⟨-, q⟩
    · rw [q]
    · rw [q]
  have he : (0 < σ 40 l ∧ e' = ad 2 l ∧ mm'.2.1 = mm.2.1) ∨ (e' = mm.2.1 ∧ mm'.2.1 = mm.2.1 + 1) := by
    rcases p10 with ⟨q1, q2, q3⟩ | ⟨q1, q2⟩
    · left
      have hpos : 0 < σ 40 l := by
        rcases Nat.eq_zero_or_pos (σ 40 l) with z | z
        · exfalso
          obtain ⟨-, -, -, -, -, -, w | w⟩ := hL
          · omega
          · rw [if_pos z] at ha
            rw [ha, h.2.2.2.2.1 _ h.2.2.2.2.2.1] at w
            cases w.2
        · exact z
      rw [if_neg (by omega)] at ha
      exact ⟨hpos, by rw [q2, ha], by rw [q3]⟩
    · exact Or.inr ⟨q1, by rw [q2]⟩
  have w41 : ∀ j, j ≤ σ 40 l → (fun f i => if f = 40 then (if i = l then σ 40 l + 1 else σ 40 i) else if f = 41 ∧ l * 1000 ≤ i ∧ i ≤ l * 1000 + σ 40 l then (if i - l * 1000 < p then σ 41 i else if i - l * 1000 = p then e else σ 41 (i - 1)) else σ f i : Nat → Nat → Nat) 41 (l * 1000 + j) = if j < p then σ 41 (l * 1000 + j) else if j = p then e else σ 41 (l * 1000 + (j - 1)) := by
    intro j hj
    simp only [if_neg (show ¬ (41 : Nat) = 40 by omega), true_and]
    rw [if_pos (by omega), Nat.add_sub_cancel_left]
    by_cases z1 : j < p
    · rw [if_pos z1, if_pos z1]
    · rw [if_neg z1, if_neg z1]
      by_cases z2 : j = p
      · rw [if_pos z2, if_pos z2]
      · rw [if_neg z2, if_neg z2, show l * 1000 + j - 1 = l * 1000 + (j - 1) by omega]
  refine ⟨mm', fun k i => if k = 2 ∧ i = l then e' else ad k i, fun f i => if f = 40 then (if i = l then σ 40 l + 1 else σ 40 i) else if f = 41 ∧ l * 1000 ≤ i ∧ i ≤ l * 1000 + σ 40 l then (if i - l * 1000 < p then σ 41 i else if i - l * 1000 = p then e else σ 41 (i - 1)) else σ f i, p1, ?_, fun f f1 f2 => ?_, fun j => ?_, fun j hj => ?_, w41, fun k i hk => if_neg (fun w => hk w.1), ?_, ?_, hst⟩
  · refine h.relist (w := fun j => if j < p then σ 41 (l * 1000 + j) else if j = p then e else σ 41 (l * 1000 + (j - 1))) hl p2 p3 (by omega) p4 p5 p6 (fun j hj => ?_) he p9 hst (fun f j f1 f2 => ?_) (fun j hj => ?_) ?_ (fun j hj => ?_) (fun j hj => w41 j (by omega)) (fun k i hk => if_neg (fun w => by omega)) (if_pos ⟨rfl, rfl⟩) hlen
    · by_cases z1 : j < p
      · rw [p7 j z1, hg j (by omega)]
        simp only [if_pos z1]
      · by_cases z2 : j = p
        · rw [z2, p8]
          simp only [if_neg (show ¬ p < p by omega), if_true]
        · obtain ⟨i, rfl⟩ : ∃ i, j = i + 1 := ⟨j - 1, by omega⟩
          rw [p8' i (by omega) (by omega), hg i (by omega)]
          simp only [if_neg z1, if_neg z2, Nat.add_sub_cancel]
    · simp only [if_neg f1, if_neg (show ¬ (f = 41 ∧ l * 1000 ≤ j ∧ j ≤ l * 1000 + σ 40 l) from fun w => f2 w.1)]
    · simp only [if_true, if_neg hj]
    · simp only [if_true]
    · simp only [if_neg (show ¬ (41 : Nat) = 40 by omega)]
      rw [if_neg (by omega)]
  · funext j
    simp only [if_neg f1, if_neg (show ¬ (f = 41 ∧ l * 1000 ≤ j ∧ j ≤ l * 1000 + σ 40 l) from fun w => f2 w.1)]
  · simp only [if_true]
  · simp only [if_neg (show ¬ (41 : Nat) = 40 by omega)]
    rw [if_neg (by omega)]
  · rcases he with ⟨-, -, q⟩ | ⟨-, q⟩ <;> omega
  · have := gcap_le hL.2.2.1
    rcases p10 with ⟨-, -, q⟩ | ⟨-, q⟩
    · rw [q]; omega
    · rw [q]
      show mm.2.2.1 + gcap c ≤ _
      omega
end GR
