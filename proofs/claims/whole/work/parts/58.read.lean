/-! readers and writers: what a memory that holds the state answers (written by wip/whole/mkread.py) -/
section RD
variable {n0 : Nat} {σ : Nat → Nat → Nat} {τ : Nat → Nat → Int64} {ad : Nat → Nat → Nat} {mm : gM}
theorem Rep.xM (h : Rep n0 σ τ ad mm) : grc 10 (some (ad 100 0)) mm = some (ad 100 0) ∧ gfI 10 0 (some (ad 100 0)) mm = some (nI (σ 500 0)) ∧ gfR 10 1 (some (ad 100 0)) mm = some (some (ad 1510 0)) ∧ gfI 10 2 (some (ad 100 0)) mm = some (nI (σ 501 0)) ∧ gfR 10 3 (some (ad 100 0)) mm = some (some (ad 1511 0)) ∧ gfR 10 4 (some (ad 100 0)) mm = some (some (ad 1512 0)) ∧ gfR 10 5 (some (ad 100 0)) mm = some (some (ad 1513 0)) ∧ gfR 10 6 (some (ad 100 0)) mm = some (some (ad 1514 0)) ∧ gfR 10 7 (some (ad 100 0)) mm = some (some (ad 2510 0)) ∧ gfR 10 8 (some (ad 100 0)) mm = some (some (ad 1515 0)) ∧ gfI 10 9 (some (ad 100 0)) mm = some (nI (σ 502 0)) ∧ gfR 10 10 (some (ad 100 0)) mm = some (some (ad 1516 0)) ∧ gfR 10 11 (some (ad 100 0)) mm = some (some (ad 1517 0)) ∧ gfR 10 12 (some (ad 100 0)) mm = some (some (ad 1518 0)) ∧ gfI 10 13 (some (ad 100 0)) mm = some (nI (σ 503 0)) ∧ gfR 10 14 (some (ad 100 0)) mm = some (some (ad 1519 0)) ∧ gfR 10 15 (some (ad 100 0)) mm = some (some (ad 1520 0)) ∧ gfR 10 16 (some (ad 100 0)) mm = some (some (ad 1521 0)) ∧ gfR 10 17 (some (ad 100 0)) mm = some (some (ad 1522 0)) ∧ gfR 10 18 (some (ad 100 0)) mm = some (some (ad 1523 0)) ∧ gfR 10 19 (some (ad 100 0)) mm = some (some (ad 1524 0)) ∧ gfR 10 20 (some (ad 100 0)) mm = some (some (ad 1525 0)) ∧ gfR 10 21 (some (ad 100 0)) mm = some (some (ad 1526 0)) ∧ gfR 10 22 (some (ad 100 0)) mm = some (some (ad 1527 0)) ∧ gfR 10 23 (some (ad 100 0)) mm = some (some (ad 1528 0)) ∧ gfR 10 24 (some (ad 100 0)) mm = some (some (ad 2511 0)) ∧ gfR 10 25 (some (ad 100 0)) mm = some (some (ad 2512 0)) ∧ gfR 10 26 (some (ad 100 0)) mm = some (some (ad 1529 0)) :=
  ⟨grc_eq h.oM, gfI_eq h.oM (k := 0) rfl, gfR_eq h.oM (k := 1) rfl, gfI_eq h.oM (k := 2) rfl, gfR_eq h.oM (k := 3) rfl, gfR_eq h.oM (k := 4) rfl, gfR_eq h.oM (k := 5) rfl, gfR_eq h.oM (k := 6) rfl, gfR_eq h.oM (k := 7) rfl, gfR_eq h.oM (k := 8) rfl, gfI_eq h.oM (k := 9) rfl, gfR_eq h.oM (k := 10) rfl, gfR_eq h.oM (k := 11) rfl, gfR_eq h.oM (k := 12) rfl, gfI_eq h.oM (k := 13) rfl, gfR_eq h.oM (k := 14) rfl, gfR_eq h.oM (k := 15) rfl, gfR_eq h.oM (k := 16) rfl, gfR_eq h.oM (k := 17) rfl, gfR_eq h.oM (k := 18) rfl, gfR_eq h.oM (k := 19) rfl, gfR_eq h.oM (k := 20) rfl, gfR_eq h.oM (k := 21) rfl, gfR_eq h.oM (k := 22) rfl, gfR_eq h.oM (k := 23) rfl, gfR_eq h.oM (k := 24) rfl, gfR_eq h.oM (k := 25) rfl, gfR_eq h.oM (k := 26) rfl⟩
theorem Rep.a510 (h : Rep n0 σ τ ad mm) {j : Nat} (hj : j < 8) : gaI 2 (some (ad 1510 0)) (nI j) mm = some (nI (σ 510 j)) := by
  have k := h.rdI (k := 1510) (i := 0) (f := 510) (j := j) ⟨Nat.zero_lt_one, fun h => by cases h⟩ rfl (by omega) rfl rfl hj
  rw [Nat.zero_mul, Nat.zero_add] at k
  exact k
theorem Rep.w510 (h : Rep n0 σ τ ad mm) {j : Nat} (hj : j < 8) (v : Nat) : ∃ mm' : gM, gsI 2 (some (ad 1510 0)) (nI j) (nI v) mm = some mm' ∧ mm'.2 = mm.2 ∧ Rep n0 (uS σ 510 j v) τ ad mm' := by
  have k := h.wrI (k := 1510) (i := 0) (f := 510) (j := j) ⟨Nat.zero_lt_one, fun h => by cases h⟩ rfl (by omega) rfl rfl hj v
  rw [Nat.zero_mul, Nat.zero_add] at k
  exact k
theorem Rep.a511 (h : Rep n0 σ τ ad mm) {j : Nat} (hj : j < 200) : gaI 0 (some (ad 1511 0)) (nI j) mm = some (nI (σ 511 j)) := by
  have k := h.rdI (k := 1511) (i := 0) (f := 511) (j := j) ⟨Nat.zero_lt_one, fun h => by cases h⟩ rfl (by omega) rfl rfl hj
  rw [Nat.zero_mul, Nat.zero_add] at k
  exact k
theorem Rep.w511 (h : Rep n0 σ τ ad mm) {j : Nat} (hj : j < 200) (v : Nat) : ∃ mm' : gM, gsI 0 (some (ad 1511 0)) (nI j) (nI v) mm = some mm' ∧ mm'.2 = mm.2 ∧ Rep n0 (uS σ 511 j v) τ ad mm' := by
  have k := h.wrI (k := 1511) (i := 0) (f := 511) (j := j) ⟨Nat.zero_lt_one, fun h => by cases h⟩ rfl (by omega) rfl rfl hj v
  rw [Nat.zero_mul, Nat.zero_add] at k
  exact k
theorem Rep.a512 (h : Rep n0 σ τ ad mm) {j : Nat} (hj : j < 200) : gaI 0 (some (ad 1512 0)) (nI j) mm = some (nI (σ 512 j)) := by
  have k := h.rdI (k := 1512) (i := 0) (f := 512) (j := j) ⟨Nat.zero_lt_one, fun h => by cases h⟩ rfl (by omega) rfl rfl hj
  rw [Nat.zero_mul, Nat.zero_add] at k
  exact k
theorem Rep.w512 (h : Rep n0 σ τ ad mm) {j : Nat} (hj : j < 200) (v : Nat) : ∃ mm' : gM, gsI 0 (some (ad 1512 0)) (nI j) (nI v) mm = some mm' ∧ mm'.2 = mm.2 ∧ Rep n0 (uS σ 512 j v) τ ad mm' := by
  have k := h.wrI (k := 1512) (i := 0) (f := 512) (j := j) ⟨Nat.zero_lt_one, fun h => by cases h⟩ rfl (by omega) rfl rfl hj v
  rw [Nat.zero_mul, Nat.zero_add] at k
  exact k
theorem Rep.a513 (h : Rep n0 σ τ ad mm) {j : Nat} (hj : j < 200) : gaI 0 (some (ad 1513 0)) (nI j) mm = some (nI (σ 513 j)) := by
  have k := h.rdI (k := 1513) (i := 0) (f := 513) (j := j) ⟨Nat.zero_lt_one, fun h => by cases h⟩ rfl (by omega) rfl rfl hj
  rw [Nat.zero_mul, Nat.zero_add] at k
  exact k
theorem Rep.w513 (h : Rep n0 σ τ ad mm) {j : Nat} (hj : j < 200) (v : Nat) : ∃ mm' : gM, gsI 0 (some (ad 1513 0)) (nI j) (nI v) mm = some mm' ∧ mm'.2 = mm.2 ∧ Rep n0 (uS σ 513 j v) τ ad mm' := by
  have k := h.wrI (k := 1513) (i := 0) (f := 513) (j := j) ⟨Nat.zero_lt_one, fun h => by cases h⟩ rfl (by omega) rfl rfl hj v
  rw [Nat.zero_mul, Nat.zero_add] at k
  exact k
theorem Rep.a514 (h : Rep n0 σ τ ad mm) {j : Nat} (hj : j < 200) : gaI 0 (some (ad 1514 0)) (nI j) mm = some (nI (σ 514 j)) := by
  have k := h.rdI (k := 1514) (i := 0) (f := 514) (j := j) ⟨Nat.zero_lt_one, fun h => by cases h⟩ rfl (by omega) rfl rfl hj
  rw [Nat.zero_mul, Nat.zero_add] at k
  exact k
theorem Rep.w514 (h : Rep n0 σ τ ad mm) {j : Nat} (hj : j < 200) (v : Nat) : ∃ mm' : gM, gsI 0 (some (ad 1514 0)) (nI j) (nI v) mm = some mm' ∧ mm'.2 = mm.2 ∧ Rep n0 (uS σ 514 j v) τ ad mm' := by
  have k := h.wrI (k := 1514) (i := 0) (f := 514) (j := j) ⟨Nat.zero_lt_one, fun h => by cases h⟩ rfl (by omega) rfl rfl hj v
  rw [Nat.zero_mul, Nat.zero_add] at k
  exact k
theorem Rep.b510 (h : Rep n0 σ τ ad mm) {j : Nat} (hj : j < 200) : gaL 1 (some (ad 2510 0)) (nI j) mm = some (τ 510 j) := by
  have k := h.rdL (k := 2510) (i := 0) (f := 510) (j := j) ⟨Nat.zero_lt_one, fun h => by cases h⟩ rfl rfl hj
  rw [Nat.zero_mul, Nat.zero_add] at k
  exact k
theorem Rep.v510 (h : Rep n0 σ τ ad mm) {j : Nat} (hj : j < 200) (v : Int64) : ∃ mm' : gM, gsL 1 (some (ad 2510 0)) (nI j) v mm = some mm' ∧ mm'.2 = mm.2 ∧ Rep n0 σ (uT τ 510 j v) ad mm' := by
  have k := h.wrL (k := 2510) (i := 0) (f := 510) (j := j) ⟨Nat.zero_lt_one, fun h => by cases h⟩ rfl rfl hj v
  rw [Nat.zero_mul, Nat.zero_add] at k
  exact k
theorem Rep.a515 (h : Rep n0 σ τ ad mm) {j : Nat} (hj : j < 200) : gaI 0 (some (ad 1515 0)) (nI j) mm = some (nI (σ 515 j)) := by
  have k := h.rdI (k := 1515) (i := 0) (f := 515) (j := j) ⟨Nat.zero_lt_one, fun h => by cases h⟩ rfl (by omega) rfl rfl hj
  rw [Nat.zero_mul, Nat.zero_add] at k
  exact k
theorem Rep.w515 (h : Rep n0 σ τ ad mm) {j : Nat} (hj : j < 200) (v : Nat) : ∃ mm' : gM, gsI 0 (some (ad 1515 0)) (nI j) (nI v) mm = some mm' ∧ mm'.2 = mm.2 ∧ Rep n0 (uS σ 515 j v) τ ad mm' := by
  have k := h.wrI (k := 1515) (i := 0) (f := 515) (j := j) ⟨Nat.zero_lt_one, fun h => by cases h⟩ rfl (by omega) rfl rfl hj v
  rw [Nat.zero_mul, Nat.zero_add] at k
  exact k
theorem Rep.a516 (h : Rep n0 σ τ ad mm) {j : Nat} (hj : j < 4800) : gaI 2 (some (ad 1516 0)) (nI j) mm = some (nI (σ 516 j)) := by
  have k := h.rdI (k := 1516) (i := 0) (f := 516) (j := j) ⟨Nat.zero_lt_one, fun h => by cases h⟩ rfl (by omega) rfl rfl hj
  rw [Nat.zero_mul, Nat.zero_add] at k
  exact k
theorem Rep.w516 (h : Rep n0 σ τ ad mm) {j : Nat} (hj : j < 4800) (v : Nat) : ∃ mm' : gM, gsI 2 (some (ad 1516 0)) (nI j) (nI v) mm = some mm' ∧ mm'.2 = mm.2 ∧ Rep n0 (uS σ 516 j v) τ ad mm' := by
  have k := h.wrI (k := 1516) (i := 0) (f := 516) (j := j) ⟨Nat.zero_lt_one, fun h => by cases h⟩ rfl (by omega) rfl rfl hj v
  rw [Nat.zero_mul, Nat.zero_add] at k
  exact k
theorem Rep.a517 (h : Rep n0 σ τ ad mm) {j : Nat} (hj : j < 960) : gaI 2 (some (ad 1517 0)) (nI j) mm = some (nI (σ 517 j)) := by
  have k := h.rdI (k := 1517) (i := 0) (f := 517) (j := j) ⟨Nat.zero_lt_one, fun h => by cases h⟩ rfl (by omega) rfl rfl hj
  rw [Nat.zero_mul, Nat.zero_add] at k
  exact k
theorem Rep.w517 (h : Rep n0 σ τ ad mm) {j : Nat} (hj : j < 960) (v : Nat) : ∃ mm' : gM, gsI 2 (some (ad 1517 0)) (nI j) (nI v) mm = some mm' ∧ mm'.2 = mm.2 ∧ Rep n0 (uS σ 517 j v) τ ad mm' := by
  have k := h.wrI (k := 1517) (i := 0) (f := 517) (j := j) ⟨Nat.zero_lt_one, fun h => by cases h⟩ rfl (by omega) rfl rfl hj v
  rw [Nat.zero_mul, Nat.zero_add] at k
  exact k
theorem Rep.a518 (h : Rep n0 σ τ ad mm) {j : Nat} (hj : j < 12) : gaI 2 (some (ad 1518 0)) (nI j) mm = some (nI (σ 518 j)) := by
  have k := h.rdI (k := 1518) (i := 0) (f := 518) (j := j) ⟨Nat.zero_lt_one, fun h => by cases h⟩ rfl (by omega) rfl rfl hj
  rw [Nat.zero_mul, Nat.zero_add] at k
  exact k
theorem Rep.w518 (h : Rep n0 σ τ ad mm) {j : Nat} (hj : j < 12) (v : Nat) : ∃ mm' : gM, gsI 2 (some (ad 1518 0)) (nI j) (nI v) mm = some mm' ∧ mm'.2 = mm.2 ∧ Rep n0 (uS σ 518 j v) τ ad mm' := by
  have k := h.wrI (k := 1518) (i := 0) (f := 518) (j := j) ⟨Nat.zero_lt_one, fun h => by cases h⟩ rfl (by omega) rfl rfl hj v
  rw [Nat.zero_mul, Nat.zero_add] at k
  exact k
theorem Rep.a519 (h : Rep n0 σ τ ad mm) {j : Nat} (hj : j < 40) : gaI 0 (some (ad 1519 0)) (nI j) mm = some (nI (σ 519 j)) := by
  have k := h.rdI (k := 1519) (i := 0) (f := 519) (j := j) ⟨Nat.zero_lt_one, fun h => by cases h⟩ rfl (by omega) rfl rfl hj
  rw [Nat.zero_mul, Nat.zero_add] at k
  exact k
theorem Rep.w519 (h : Rep n0 σ τ ad mm) {j : Nat} (hj : j < 40) (v : Nat) : ∃ mm' : gM, gsI 0 (some (ad 1519 0)) (nI j) (nI v) mm = some mm' ∧ mm'.2 = mm.2 ∧ Rep n0 (uS σ 519 j v) τ ad mm' := by
  have k := h.wrI (k := 1519) (i := 0) (f := 519) (j := j) ⟨Nat.zero_lt_one, fun h => by cases h⟩ rfl (by omega) rfl rfl hj v
  rw [Nat.zero_mul, Nat.zero_add] at k
  exact k
theorem Rep.a520 (h : Rep n0 σ τ ad mm) {j : Nat} (hj : j < 40) : gaI 0 (some (ad 1520 0)) (nI j) mm = some (nI (σ 520 j)) := by
  have k := h.rdI (k := 1520) (i := 0) (f := 520) (j := j) ⟨Nat.zero_lt_one, fun h => by cases h⟩ rfl (by omega) rfl rfl hj
  rw [Nat.zero_mul, Nat.zero_add] at k
  exact k
theorem Rep.w520 (h : Rep n0 σ τ ad mm) {j : Nat} (hj : j < 40) (v : Nat) : ∃ mm' : gM, gsI 0 (some (ad 1520 0)) (nI j) (nI v) mm = some mm' ∧ mm'.2 = mm.2 ∧ Rep n0 (uS σ 520 j v) τ ad mm' := by
  have k := h.wrI (k := 1520) (i := 0) (f := 520) (j := j) ⟨Nat.zero_lt_one, fun h => by cases h⟩ rfl (by omega) rfl rfl hj v
  rw [Nat.zero_mul, Nat.zero_add] at k
  exact k
theorem Rep.a521 (h : Rep n0 σ τ ad mm) {j : Nat} (hj : j < 40) : gaI 0 (some (ad 1521 0)) (nI j) mm = some (nI (σ 521 j)) := by
  have k := h.rdI (k := 1521) (i := 0) (f := 521) (j := j) ⟨Nat.zero_lt_one, fun h => by cases h⟩ rfl (by omega) rfl rfl hj
  rw [Nat.zero_mul, Nat.zero_add] at k
  exact k
theorem Rep.w521 (h : Rep n0 σ τ ad mm) {j : Nat} (hj : j < 40) (v : Nat) : ∃ mm' : gM, gsI 0 (some (ad 1521 0)) (nI j) (nI v) mm = some mm' ∧ mm'.2 = mm.2 ∧ Rep n0 (uS σ 521 j v) τ ad mm' := by
  have k := h.wrI (k := 1521) (i := 0) (f := 521) (j := j) ⟨Nat.zero_lt_one, fun h => by cases h⟩ rfl (by omega) rfl rfl hj v
  rw [Nat.zero_mul, Nat.zero_add] at k
  exact k
theorem Rep.a522 (h : Rep n0 σ τ ad mm) {j : Nat} (hj : j < 8000) : gaI 2 (some (ad 1522 0)) (nI j) mm = some (nI (σ 522 j)) := by
  have k := h.rdI (k := 1522) (i := 0) (f := 522) (j := j) ⟨Nat.zero_lt_one, fun h => by cases h⟩ rfl (by omega) rfl rfl hj
  rw [Nat.zero_mul, Nat.zero_add] at k
  exact k
theorem Rep.w522 (h : Rep n0 σ τ ad mm) {j : Nat} (hj : j < 8000) (v : Nat) : ∃ mm' : gM, gsI 2 (some (ad 1522 0)) (nI j) (nI v) mm = some mm' ∧ mm'.2 = mm.2 ∧ Rep n0 (uS σ 522 j v) τ ad mm' := by
  have k := h.wrI (k := 1522) (i := 0) (f := 522) (j := j) ⟨Nat.zero_lt_one, fun h => by cases h⟩ rfl (by omega) rfl rfl hj v
  rw [Nat.zero_mul, Nat.zero_add] at k
  exact k
theorem Rep.a523 (h : Rep n0 σ τ ad mm) {j : Nat} (hj : j < 80) : gaI 2 (some (ad 1523 0)) (nI j) mm = some (nI (σ 523 j)) := by
  have k := h.rdI (k := 1523) (i := 0) (f := 523) (j := j) ⟨Nat.zero_lt_one, fun h => by cases h⟩ rfl (by omega) rfl rfl hj
  rw [Nat.zero_mul, Nat.zero_add] at k
  exact k
theorem Rep.w523 (h : Rep n0 σ τ ad mm) {j : Nat} (hj : j < 80) (v : Nat) : ∃ mm' : gM, gsI 2 (some (ad 1523 0)) (nI j) (nI v) mm = some mm' ∧ mm'.2 = mm.2 ∧ Rep n0 (uS σ 523 j v) τ ad mm' := by
  have k := h.wrI (k := 1523) (i := 0) (f := 523) (j := j) ⟨Nat.zero_lt_one, fun h => by cases h⟩ rfl (by omega) rfl rfl hj v
  rw [Nat.zero_mul, Nat.zero_add] at k
  exact k
theorem Rep.a524 (h : Rep n0 σ τ ad mm) {j : Nat} (hj : j < 8) : gaI 0 (some (ad 1524 0)) (nI j) mm = some (nI (σ 524 j)) := by
  have k := h.rdI (k := 1524) (i := 0) (f := 524) (j := j) ⟨Nat.zero_lt_one, fun h => by cases h⟩ rfl (by omega) rfl rfl hj
  rw [Nat.zero_mul, Nat.zero_add] at k
  exact k
theorem Rep.w524 (h : Rep n0 σ τ ad mm) {j : Nat} (hj : j < 8) (v : Nat) : ∃ mm' : gM, gsI 0 (some (ad 1524 0)) (nI j) (nI v) mm = some mm' ∧ mm'.2 = mm.2 ∧ Rep n0 (uS σ 524 j v) τ ad mm' := by
  have k := h.wrI (k := 1524) (i := 0) (f := 524) (j := j) ⟨Nat.zero_lt_one, fun h => by cases h⟩ rfl (by omega) rfl rfl hj v
  rw [Nat.zero_mul, Nat.zero_add] at k
  exact k
theorem Rep.a525 (h : Rep n0 σ τ ad mm) {j : Nat} (hj : j < 48) : gaI 0 (some (ad 1525 0)) (nI j) mm = some (nI (σ 525 j)) := by
  have k := h.rdI (k := 1525) (i := 0) (f := 525) (j := j) ⟨Nat.zero_lt_one, fun h => by cases h⟩ rfl (by omega) rfl rfl hj
  rw [Nat.zero_mul, Nat.zero_add] at k
  exact k
theorem Rep.w525 (h : Rep n0 σ τ ad mm) {j : Nat} (hj : j < 48) (v : Nat) : ∃ mm' : gM, gsI 0 (some (ad 1525 0)) (nI j) (nI v) mm = some mm' ∧ mm'.2 = mm.2 ∧ Rep n0 (uS σ 525 j v) τ ad mm' := by
  have k := h.wrI (k := 1525) (i := 0) (f := 525) (j := j) ⟨Nat.zero_lt_one, fun h => by cases h⟩ rfl (by omega) rfl rfl hj v
  rw [Nat.zero_mul, Nat.zero_add] at k
  exact k
theorem Rep.a526 (h : Rep n0 σ τ ad mm) {j : Nat} (hj : j < 48) : gaI 0 (some (ad 1526 0)) (nI j) mm = some (nI (σ 526 j)) := by
  have k := h.rdI (k := 1526) (i := 0) (f := 526) (j := j) ⟨Nat.zero_lt_one, fun h => by cases h⟩ rfl (by omega) rfl rfl hj
  rw [Nat.zero_mul, Nat.zero_add] at k
  exact k
theorem Rep.w526 (h : Rep n0 σ τ ad mm) {j : Nat} (hj : j < 48) (v : Nat) : ∃ mm' : gM, gsI 0 (some (ad 1526 0)) (nI j) (nI v) mm = some mm' ∧ mm'.2 = mm.2 ∧ Rep n0 (uS σ 526 j v) τ ad mm' := by
  have k := h.wrI (k := 1526) (i := 0) (f := 526) (j := j) ⟨Nat.zero_lt_one, fun h => by cases h⟩ rfl (by omega) rfl rfl hj v
  rw [Nat.zero_mul, Nat.zero_add] at k
  exact k
theorem Rep.a527 (h : Rep n0 σ τ ad mm) {j : Nat} (hj : j < 80000) : gaI 2 (some (ad 1527 0)) (nI j) mm = some (nI (σ 527 j)) := by
  have k := h.rdI (k := 1527) (i := 0) (f := 527) (j := j) ⟨Nat.zero_lt_one, fun h => by cases h⟩ rfl (by omega) rfl rfl hj
  rw [Nat.zero_mul, Nat.zero_add] at k
  exact k
theorem Rep.w527 (h : Rep n0 σ τ ad mm) {j : Nat} (hj : j < 80000) (v : Nat) : ∃ mm' : gM, gsI 2 (some (ad 1527 0)) (nI j) (nI v) mm = some mm' ∧ mm'.2 = mm.2 ∧ Rep n0 (uS σ 527 j v) τ ad mm' := by
  have k := h.wrI (k := 1527) (i := 0) (f := 527) (j := j) ⟨Nat.zero_lt_one, fun h => by cases h⟩ rfl (by omega) rfl rfl hj v
  rw [Nat.zero_mul, Nat.zero_add] at k
  exact k
theorem Rep.a528 (h : Rep n0 σ τ ad mm) {j : Nat} (hj : j < 8) : gaI 0 (some (ad 1528 0)) (nI j) mm = some (nI (σ 528 j)) := by
  have k := h.rdI (k := 1528) (i := 0) (f := 528) (j := j) ⟨Nat.zero_lt_one, fun h => by cases h⟩ rfl (by omega) rfl rfl hj
  rw [Nat.zero_mul, Nat.zero_add] at k
  exact k
theorem Rep.w528 (h : Rep n0 σ τ ad mm) {j : Nat} (hj : j < 8) (v : Nat) : ∃ mm' : gM, gsI 0 (some (ad 1528 0)) (nI j) (nI v) mm = some mm' ∧ mm'.2 = mm.2 ∧ Rep n0 (uS σ 528 j v) τ ad mm' := by
  have k := h.wrI (k := 1528) (i := 0) (f := 528) (j := j) ⟨Nat.zero_lt_one, fun h => by cases h⟩ rfl (by omega) rfl rfl hj v
  rw [Nat.zero_mul, Nat.zero_add] at k
  exact k
theorem Rep.b511 (h : Rep n0 σ τ ad mm) {j : Nat} (hj : j < 48) : gaL 1 (some (ad 2511 0)) (nI j) mm = some (τ 511 j) := by
  have k := h.rdL (k := 2511) (i := 0) (f := 511) (j := j) ⟨Nat.zero_lt_one, fun h => by cases h⟩ rfl rfl hj
  rw [Nat.zero_mul, Nat.zero_add] at k
  exact k
theorem Rep.v511 (h : Rep n0 σ τ ad mm) {j : Nat} (hj : j < 48) (v : Int64) : ∃ mm' : gM, gsL 1 (some (ad 2511 0)) (nI j) v mm = some mm' ∧ mm'.2 = mm.2 ∧ Rep n0 σ (uT τ 511 j v) ad mm' := by
  have k := h.wrL (k := 2511) (i := 0) (f := 511) (j := j) ⟨Nat.zero_lt_one, fun h => by cases h⟩ rfl rfl hj v
  rw [Nat.zero_mul, Nat.zero_add] at k
  exact k
theorem Rep.b512 (h : Rep n0 σ τ ad mm) {j : Nat} (hj : j < 48) : gaL 1 (some (ad 2512 0)) (nI j) mm = some (τ 512 j) := by
  have k := h.rdL (k := 2512) (i := 0) (f := 512) (j := j) ⟨Nat.zero_lt_one, fun h => by cases h⟩ rfl rfl hj
  rw [Nat.zero_mul, Nat.zero_add] at k
  exact k
theorem Rep.v512 (h : Rep n0 σ τ ad mm) {j : Nat} (hj : j < 48) (v : Int64) : ∃ mm' : gM, gsL 1 (some (ad 2512 0)) (nI j) v mm = some mm' ∧ mm'.2 = mm.2 ∧ Rep n0 σ (uT τ 512 j v) ad mm' := by
  have k := h.wrL (k := 2512) (i := 0) (f := 512) (j := j) ⟨Nat.zero_lt_one, fun h => by cases h⟩ rfl rfl hj v
  rw [Nat.zero_mul, Nat.zero_add] at k
  exact k
theorem Rep.a529 (h : Rep n0 σ τ ad mm) {j : Nat} (hj : j < 200) : gaI 2 (some (ad 1529 0)) (nI j) mm = some (nI (σ 529 j)) := by
  have k := h.rdI (k := 1529) (i := 0) (f := 529) (j := j) ⟨Nat.zero_lt_one, fun h => by cases h⟩ rfl (by omega) rfl rfl hj
  rw [Nat.zero_mul, Nat.zero_add] at k
  exact k
theorem Rep.w529 (h : Rep n0 σ τ ad mm) {j : Nat} (hj : j < 200) (v : Nat) : ∃ mm' : gM, gsI 2 (some (ad 1529 0)) (nI j) (nI v) mm = some mm' ∧ mm'.2 = mm.2 ∧ Rep n0 (uS σ 529 j v) τ ad mm' := by
  have k := h.wrI (k := 1529) (i := 0) (f := 529) (j := j) ⟨Nat.zero_lt_one, fun h => by cases h⟩ rfl (by omega) rfl rfl hj v
  rw [Nat.zero_mul, Nat.zero_add] at k
  exact k
theorem Rep.a20 (h : Rep n0 σ τ ad mm) {t : Nat} (ht : t < σ 42 1) {j : Nat} (hj : j < 6) : gaI 0 (some (ad 1020 t)) (nI j) mm = some (nI (σ 20 (t * 6 + j))) := h.rdI (k := 1020) (i := t) (f := 20) (j := j) (u1020 ht) rfl (by omega) rfl rfl hj
theorem Rep.w20 (h : Rep n0 σ τ ad mm) {t : Nat} (ht : t < σ 42 1) {j : Nat} (hj : j < 6) (v : Nat) : ∃ mm' : gM, gsI 0 (some (ad 1020 t)) (nI j) (nI v) mm = some mm' ∧ mm'.2 = mm.2 ∧ Rep n0 (uS σ 20 (t * 6 + j) v) τ ad mm' := h.wrI (k := 1020) (i := t) (f := 20) (j := j) (u1020 ht) rfl (by omega) rfl rfl hj v
theorem Rep.a21 (h : Rep n0 σ τ ad mm) {t : Nat} (ht : t < σ 42 1) {j : Nat} (hj : j < 6) : gaI 0 (some (ad 1021 t)) (nI j) mm = some (nI (σ 21 (t * 6 + j))) := h.rdI (k := 1021) (i := t) (f := 21) (j := j) (u1021 ht) rfl (by omega) rfl rfl hj
theorem Rep.w21 (h : Rep n0 σ τ ad mm) {t : Nat} (ht : t < σ 42 1) {j : Nat} (hj : j < 6) (v : Nat) : ∃ mm' : gM, gsI 0 (some (ad 1021 t)) (nI j) (nI v) mm = some mm' ∧ mm'.2 = mm.2 ∧ Rep n0 (uS σ 21 (t * 6 + j) v) τ ad mm' := h.wrI (k := 1021) (i := t) (f := 21) (j := j) (u1021 ht) rfl (by omega) rfl rfl hj v
theorem Rep.a22 (h : Rep n0 σ τ ad mm) {t : Nat} (ht : t < σ 42 1) {j : Nat} (hj : j < 6) : gaI 0 (some (ad 1022 t)) (nI j) mm = some (nI (σ 22 (t * 6 + j))) := h.rdI (k := 1022) (i := t) (f := 22) (j := j) (u1022 ht) rfl (by omega) rfl rfl hj
theorem Rep.w22 (h : Rep n0 σ τ ad mm) {t : Nat} (ht : t < σ 42 1) {j : Nat} (hj : j < 6) (v : Nat) : ∃ mm' : gM, gsI 0 (some (ad 1022 t)) (nI j) (nI v) mm = some mm' ∧ mm'.2 = mm.2 ∧ Rep n0 (uS σ 22 (t * 6 + j) v) τ ad mm' := h.wrI (k := 1022) (i := t) (f := 22) (j := j) (u1022 ht) rfl (by omega) rfl rfl hj v
theorem Rep.a23 (h : Rep n0 σ τ ad mm) {t : Nat} (ht : t < 2 * σ 42 2) {j : Nat} (hj : j < 8) : gaI 0 (some (ad 1023 t)) (nI j) mm = some (nI (σ 23 (t * 8 + j))) := h.rdI (k := 1023) (i := t) (f := 23) (j := j) (u1023 ht) rfl (by omega) rfl rfl hj
theorem Rep.w23 (h : Rep n0 σ τ ad mm) {t : Nat} (ht : t < 2 * σ 42 2) {j : Nat} (hj : j < 8) (v : Nat) : ∃ mm' : gM, gsI 0 (some (ad 1023 t)) (nI j) (nI v) mm = some mm' ∧ mm'.2 = mm.2 ∧ Rep n0 (uS σ 23 (t * 8 + j) v) τ ad mm' := h.wrI (k := 1023) (i := t) (f := 23) (j := j) (u1023 ht) rfl (by omega) rfl rfl hj v
theorem Rep.a24 (h : Rep n0 σ τ ad mm) {t : Nat} (ht : t < σ 42 3) {j : Nat} (hj : j < 8) : gaI 0 (some (ad 1024 t)) (nI j) mm = some (nI (σ 24 (t * 8 + j))) := h.rdI (k := 1024) (i := t) (f := 24) (j := j) (u1024 ht) rfl (by omega) rfl rfl hj
theorem Rep.w24 (h : Rep n0 σ τ ad mm) {t : Nat} (ht : t < σ 42 3) {j : Nat} (hj : j < 8) (v : Nat) : ∃ mm' : gM, gsI 0 (some (ad 1024 t)) (nI j) (nI v) mm = some mm' ∧ mm'.2 = mm.2 ∧ Rep n0 (uS σ 24 (t * 8 + j) v) τ ad mm' := h.wrI (k := 1024) (i := t) (f := 24) (j := j) (u1024 ht) rfl (by omega) rfl rfl hj v
theorem Rep.a25 (h : Rep n0 σ τ ad mm) {j : Nat} (hj : j < 8) : gaI 0 (some (ad 1025 0)) (nI j) mm = some (nI (σ 25 j)) := by
  have k := h.rdI (k := 1025) (i := 0) (f := 25) (j := j) ⟨Nat.zero_lt_one, fun h => by cases h⟩ rfl (by omega) rfl rfl hj
  rw [Nat.zero_mul, Nat.zero_add] at k
  exact k
theorem Rep.w25 (h : Rep n0 σ τ ad mm) {j : Nat} (hj : j < 8) (v : Nat) : ∃ mm' : gM, gsI 0 (some (ad 1025 0)) (nI j) (nI v) mm = some mm' ∧ mm'.2 = mm.2 ∧ Rep n0 (uS σ 25 j v) τ ad mm' := by
  have k := h.wrI (k := 1025) (i := 0) (f := 25) (j := j) ⟨Nat.zero_lt_one, fun h => by cases h⟩ rfl (by omega) rfl rfl hj v
  rw [Nat.zero_mul, Nat.zero_add] at k
  exact k
theorem Rep.a26 (h : Rep n0 σ τ ad mm) {j : Nat} (hj : j < 80) : gaI 2 (some (ad 1026 0)) (nI j) mm = some (nI (σ 26 j)) := by
  have k := h.rdI (k := 1026) (i := 0) (f := 26) (j := j) ⟨Nat.zero_lt_one, fun h => by cases h⟩ rfl (by omega) rfl rfl hj
  rw [Nat.zero_mul, Nat.zero_add] at k
  exact k
theorem Rep.w26 (h : Rep n0 σ τ ad mm) {j : Nat} (hj : j < 80) (v : Nat) : ∃ mm' : gM, gsI 2 (some (ad 1026 0)) (nI j) (nI v) mm = some mm' ∧ mm'.2 = mm.2 ∧ Rep n0 (uS σ 26 j v) τ ad mm' := by
  have k := h.wrI (k := 1026) (i := 0) (f := 26) (j := j) ⟨Nat.zero_lt_one, fun h => by cases h⟩ rfl (by omega) rfl rfl hj v
  rw [Nat.zero_mul, Nat.zero_add] at k
  exact k
theorem Rep.b20 (h : Rep n0 σ τ ad mm) {t : Nat} (ht : t < σ 42 1) {j : Nat} (hj : j < 6) : gaL 1 (some (ad 2020 t)) (nI j) mm = some (τ 20 (t * 6 + j)) := h.rdL (k := 2020) (i := t) (f := 20) (j := j) (u2020 ht) rfl rfl hj
theorem Rep.v20 (h : Rep n0 σ τ ad mm) {t : Nat} (ht : t < σ 42 1) {j : Nat} (hj : j < 6) (v : Int64) : ∃ mm' : gM, gsL 1 (some (ad 2020 t)) (nI j) v mm = some mm' ∧ mm'.2 = mm.2 ∧ Rep n0 σ (uT τ 20 (t * 6 + j) v) ad mm' := h.wrL (k := 2020) (i := t) (f := 20) (j := j) (u2020 ht) rfl rfl hj v
theorem Rep.b21 (h : Rep n0 σ τ ad mm) {t : Nat} (ht : t < σ 42 1) {j : Nat} (hj : j < 6) : gaL 1 (some (ad 2021 t)) (nI j) mm = some (τ 21 (t * 6 + j)) := h.rdL (k := 2021) (i := t) (f := 21) (j := j) (u2021 ht) rfl rfl hj
theorem Rep.v21 (h : Rep n0 σ τ ad mm) {t : Nat} (ht : t < σ 42 1) {j : Nat} (hj : j < 6) (v : Int64) : ∃ mm' : gM, gsL 1 (some (ad 2021 t)) (nI j) v mm = some mm' ∧ mm'.2 = mm.2 ∧ Rep n0 σ (uT τ 21 (t * 6 + j) v) ad mm' := h.wrL (k := 2021) (i := t) (f := 21) (j := j) (u2021 ht) rfl rfl hj v
theorem Rep.b22 (h : Rep n0 σ τ ad mm) {j : Nat} (hj : j < 8) : gaL 1 (some (ad 2022 0)) (nI j) mm = some (τ 22 j) := by
  have k := h.rdL (k := 2022) (i := 0) (f := 22) (j := j) ⟨Nat.zero_lt_one, fun h => by cases h⟩ rfl rfl hj
  rw [Nat.zero_mul, Nat.zero_add] at k
  exact k
theorem Rep.v22 (h : Rep n0 σ τ ad mm) {j : Nat} (hj : j < 8) (v : Int64) : ∃ mm' : gM, gsL 1 (some (ad 2022 0)) (nI j) v mm = some mm' ∧ mm'.2 = mm.2 ∧ Rep n0 σ (uT τ 22 j v) ad mm' := by
  have k := h.wrL (k := 2022) (i := 0) (f := 22) (j := j) ⟨Nat.zero_lt_one, fun h => by cases h⟩ rfl rfl hj v
  rw [Nat.zero_mul, Nat.zero_add] at k
  exact k
theorem Rep.xS (h : Rep n0 σ τ ad mm) : grc 0 (some (ad 0 0)) mm = some (ad 0 0) ∧ gfR 0 0 (some (ad 0 0)) mm = some (some (ad 1 0)) ∧ gfR 0 1 (some (ad 0 0)) mm = some (some (ad 1 1)) ∧ gfR 0 2 (some (ad 0 0)) mm = some (some (ad 1 2)) ∧ gfR 0 3 (some (ad 0 0)) mm = some (some (ad 3 0)) ∧ gfR 0 4 (some (ad 0 0)) mm = some (some (ad 1026 0)) ∧ gfR 0 5 (some (ad 0 0)) mm = some (some (ad 17 0)) ∧ gfI 0 6 (some (ad 0 0)) mm = some (nI (σ 1 0)) ∧ grc 8 (some (ad 17 0)) mm = some (ad 17 0) ∧ gfR 8 0 (some (ad 17 0)) mm = some (some (ad 1025 0)) ∧ gfR 8 1 (some (ad 17 0)) mm = some (some (ad 2022 0)) ∧ grc 9 (some (ad 1 (0))) mm = some (ad 1 (0)) ∧ grc 9 (some (ad 1 (1))) mm = some (ad 1 (1)) ∧ grc 9 (some (ad 1 (2))) mm = some (ad 1 (2)) :=
  ⟨grc_eq (h.oS), gfR_eq (h.oS) (k := 0) rfl, gfR_eq (h.oS) (k := 1) rfl, gfR_eq (h.oS) (k := 2) rfl, gfR_eq (h.oS) (k := 3) rfl, gfR_eq (h.oS) (k := 4) rfl, gfR_eq (h.oS) (k := 5) rfl, gfI_eq (h.oS) (k := 6) rfl, grc_eq (h.oCurrent), gfR_eq (h.oCurrent) (k := 0) rfl, gfR_eq (h.oCurrent) (k := 1) rfl, (by obtain ⟨fs, hf⟩ := h.oList (l := 0) (by omega); exact grc_eq hf), (by obtain ⟨fs, hf⟩ := h.oList (l := 1) (by omega); exact grc_eq hf), (by obtain ⟨fs, hf⟩ := h.oList (l := 2) (by omega); exact grc_eq hf)⟩
theorem Rep.xTl (h : Rep n0 σ τ ad mm) {k : Nat} (hk : k < σ 42 0) : grc 7 (some (ad 10 k)) mm = some (ad 10 k) ∧ gcs 7 (some (ad 10 k)) mm = some () ∧ gfI 7 0 (some (ad 10 k)) mm = some (nI (σ 4 k)) ∧ gfI 7 1 (some (ad 10 k)) mm = some (nI (σ 5 k)) ∧ gfI 7 2 (some (ad 10 k)) mm = some (nI (σ 6 k)) ∧ gfI 7 3 (some (ad 10 k)) mm = some (nI (σ 7 k)) ∧ gfL 7 4 (some (ad 10 k)) mm = some (τ 0 k) ∧ gfI 7 5 (some (ad 10 k)) mm = some (nI (σ 8 k)) ∧ gfR 7 6 (some (ad 10 k)) mm = some (rop (σ 9 k) (ad 10)) :=
  ⟨grc_eq (h.oTelling hk), gcs_eq (h.oTelling hk), gfI_eq (h.oTelling hk) (k := 0) rfl, gfI_eq (h.oTelling hk) (k := 1) rfl, gfI_eq (h.oTelling hk) (k := 2) rfl, gfI_eq (h.oTelling hk) (k := 3) rfl, gfL_eq (h.oTelling hk) (k := 4) rfl, gfI_eq (h.oTelling hk) (k := 5) rfl, gfR_rf (h.oTelling hk) (k := 6) rfl⟩
theorem Rep.xTr (h : Rep n0 σ τ ad mm) {t : Nat} (ht : t < σ 42 1) : grc 1 (some (ad 11 t)) mm = some (ad 11 t) ∧ gcs 1 (some (ad 11 t)) mm = some () ∧ gfR 1 0 (some (ad 11 t)) mm = some (some (ad 1 (3 + t))) ∧ gfR 1 1 (some (ad 11 t)) mm = some (some (ad 12 t)) ∧ gfR 1 2 (some (ad 11 t)) mm = some (some (ad 16 t)) ∧ gfI 1 3 (some (ad 11 t)) mm = some (nI (σ 10 t)) ∧ grc 9 (some (ad 1 (3 + t))) mm = some (ad 1 (3 + t)) ∧ grc 2 (some (ad 12 t)) mm = some (ad 12 t) ∧ gfR 2 0 (some (ad 12 t)) mm = some (some (ad 1020 t)) ∧ gfR 2 1 (some (ad 12 t)) mm = some (some (ad 1021 t)) ∧ gfR 2 2 (some (ad 12 t)) mm = some (some (ad 1022 t)) ∧ gfI 2 3 (some (ad 12 t)) mm = some (nI (σ 11 t)) ∧ grc 3 (some (ad 16 t)) mm = some (ad 16 t) ∧ gfR 3 0 (some (ad 16 t)) mm = some (some (ad 2020 t)) ∧ gfR 3 1 (some (ad 16 t)) mm = some (some (ad 2021 t)) ∧ gfI 3 2 (some (ad 16 t)) mm = some (nI (σ 12 t)) :=
  ⟨grc_eq (h.oTeller ht), gcs_eq (h.oTeller ht), gfR_eq (h.oTeller ht) (k := 0) rfl, gfR_eq (h.oTeller ht) (k := 1) rfl, gfR_eq (h.oTeller ht) (k := 2) rfl, gfI_eq (h.oTeller ht) (k := 3) rfl, (by obtain ⟨fs, hf⟩ := h.oList (l := 3 + t) (by omega); exact grc_eq hf), grc_eq (h.oBlocks ht), gfR_eq (h.oBlocks ht) (k := 0) rfl, gfR_eq (h.oBlocks ht) (k := 1) rfl, gfR_eq (h.oBlocks ht) (k := 2) rfl, gfI_eq (h.oBlocks ht) (k := 3) rfl, grc_eq (h.oClock ht), gfR_eq (h.oClock ht) (k := 0) rfl, gfR_eq (h.oClock ht) (k := 1) rfl, gfI_eq (h.oClock ht) (k := 2) rfl⟩
theorem Rep.xSt (h : Rep n0 σ τ ad mm) {s : Nat} (hs : s < σ 42 2) : grc 4 (some (ad 20 s)) mm = some (ad 20 s) ∧ gcs 4 (some (ad 20 s)) mm = some () ∧ gfR 4 0 (some (ad 20 s)) mm = some (some (ad 21 (2 * s))) ∧ gfR 4 1 (some (ad 20 s)) mm = some (some (ad 21 (2 * s + 1))) ∧ gfI 4 2 (some (ad 20 s)) mm = some (nI (σ 13 s)) :=
  ⟨grc_eq (h.oSet hs), gcs_eq (h.oSet hs), gfR_eq (h.oSet hs) (k := 0) rfl, gfR_eq (h.oSet hs) (k := 1) rfl, gfI_eq (h.oSet hs) (k := 2) rfl⟩
theorem Rep.xHd (h : Rep n0 σ τ ad mm) {q : Nat} (hq : q < 2 * σ 42 2) : grc 5 (some (ad 21 q)) mm = some (ad 21 q) ∧ gfR 5 0 (some (ad 21 q)) mm = some (some (ad 1023 q)) ∧ gfL 5 1 (some (ad 21 q)) mm = some (τ 1 q) :=
  ⟨grc_eq (h.oHold hq), gfR_eq (h.oHold hq) (k := 0) rfl, gfL_eq (h.oHold hq) (k := 1) rfl⟩
theorem Rep.xSe (h : Rep n0 σ τ ad mm) {e : Nat} (he : e < σ 42 3) : grc 6 (some (ad 30 e)) mm = some (ad 30 e) ∧ gcs 6 (some (ad 30 e)) mm = some () ∧ gfI 6 0 (some (ad 30 e)) mm = some (nI (σ 14 e)) ∧ gfI 6 1 (some (ad 30 e)) mm = some (nI (σ 15 e)) ∧ gfR 6 2 (some (ad 30 e)) mm = some (some (ad 1024 e)) :=
  ⟨grc_eq (h.oSettling he), gcs_eq (h.oSettling he), gfI_eq (h.oSettling he) (k := 0) rfl, gfI_eq (h.oSettling he) (k := 1) rfl, gfR_eq (h.oSettling he) (k := 2) rfl⟩
theorem Rep.p1 (h : Rep n0 σ τ ad mm) (v : Nat) : ∃ mm' : gM, gpV 0 6 (some (ad 0 0)) (.int (nI v)) mm = some mm' ∧ mm'.2 = mm.2 ∧ Rep n0 (uS σ 1 0 v) τ ad mm' := h.putS (f0 := 1) (j0 := 0) (v := v) (u0) (by omega) (by unfold rsc; omega) (fun _ => rfl) (h.oS) (Nat.le_of_ble_eq_true rfl) (by
    show _ = _
    simp [uS])
theorem Rep.p10 (h : Rep n0 σ τ ad mm) {t : Nat} (ht : t < σ 42 1) (v : Nat) : ∃ mm' : gM, gpV 1 3 (some (ad 11 t)) (.int (nI v)) mm = some mm' ∧ mm'.2 = mm.2 ∧ Rep n0 (uS σ 10 t v) τ ad mm' := h.putS (f0 := 10) (j0 := t) (v := v) (u11 ht) (by omega) (by unfold rsc; omega) (fun z => by omega) (h.oTeller ht) (Nat.le_of_ble_eq_true rfl) (by
    show _ = _
    simp [uS])
theorem Rep.p11 (h : Rep n0 σ τ ad mm) {t : Nat} (ht : t < σ 42 1) (v : Nat) : ∃ mm' : gM, gpV 2 3 (some (ad 12 t)) (.int (nI v)) mm = some mm' ∧ mm'.2 = mm.2 ∧ Rep n0 (uS σ 11 t v) τ ad mm' := h.putS (f0 := 11) (j0 := t) (v := v) (u12 ht) (by omega) (by unfold rsc; omega) (fun z => by omega) (h.oBlocks ht) (Nat.le_of_ble_eq_true rfl) (by
    show _ = _
    simp [uS])
theorem Rep.p12 (h : Rep n0 σ τ ad mm) {t : Nat} (ht : t < σ 42 1) (v : Nat) : ∃ mm' : gM, gpV 3 2 (some (ad 16 t)) (.int (nI v)) mm = some mm' ∧ mm'.2 = mm.2 ∧ Rep n0 (uS σ 12 t v) τ ad mm' := h.putS (f0 := 12) (j0 := t) (v := v) (u16 ht) (by omega) (by unfold rsc; omega) (fun z => by omega) (h.oClock ht) (Nat.le_of_ble_eq_true rfl) (by
    show _ = _
    simp [uS])
theorem Rep.p13 (h : Rep n0 σ τ ad mm) {s : Nat} (hs : s < σ 42 2) (v : Nat) : ∃ mm' : gM, gpV 4 2 (some (ad 20 s)) (.int (nI v)) mm = some mm' ∧ mm'.2 = mm.2 ∧ Rep n0 (uS σ 13 s v) τ ad mm' := h.putS (f0 := 13) (j0 := s) (v := v) (u20 hs) (by omega) (by unfold rsc; omega) (fun z => by omega) (h.oSet hs) (Nat.le_of_ble_eq_true rfl) (by
    show _ = _
    simp [uS])
theorem Rep.p500 (h : Rep n0 σ τ ad mm) (v : Nat) : ∃ mm' : gM, gpV 10 0 (some (ad 100 0)) (.int (nI v)) mm = some mm' ∧ mm'.2 = mm.2 ∧ Rep n0 (uS σ 500 0 v) τ ad mm' := h.putS (f0 := 500) (j0 := 0) (v := v) (u100) (by omega) (by unfold rsc; omega) (fun _ => rfl) (h.oM) (Nat.le_of_ble_eq_true rfl) (by
    show _ = _
    simp [uS, rM])
theorem Rep.p501 (h : Rep n0 σ τ ad mm) (v : Nat) : ∃ mm' : gM, gpV 10 2 (some (ad 100 0)) (.int (nI v)) mm = some mm' ∧ mm'.2 = mm.2 ∧ Rep n0 (uS σ 501 0 v) τ ad mm' := h.putS (f0 := 501) (j0 := 0) (v := v) (u100) (by omega) (by unfold rsc; omega) (fun _ => rfl) (h.oM) (Nat.le_of_ble_eq_true rfl) (by
    show _ = _
    simp [uS, rM])
theorem Rep.p502 (h : Rep n0 σ τ ad mm) (v : Nat) : ∃ mm' : gM, gpV 10 9 (some (ad 100 0)) (.int (nI v)) mm = some mm' ∧ mm'.2 = mm.2 ∧ Rep n0 (uS σ 502 0 v) τ ad mm' := h.putS (f0 := 502) (j0 := 0) (v := v) (u100) (by omega) (by unfold rsc; omega) (fun _ => rfl) (h.oM) (Nat.le_of_ble_eq_true rfl) (by
    show _ = _
    simp [uS, rM])
theorem Rep.p503 (h : Rep n0 σ τ ad mm) (v : Nat) : ∃ mm' : gM, gpV 10 13 (some (ad 100 0)) (.int (nI v)) mm = some mm' ∧ mm'.2 = mm.2 ∧ Rep n0 (uS σ 503 0 v) τ ad mm' := h.putS (f0 := 503) (j0 := 0) (v := v) (u100) (by omega) (by unfold rsc; omega) (fun _ => rfl) (h.oM) (Nat.le_of_ble_eq_true rfl) (by
    show _ = _
    simp [uS, rM])
end RD
