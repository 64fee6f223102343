/-! the two pools, the links as facts, and small rows -/
def j_sc : List (Nat × Nat) := [(4, 0), (11, 12), (11, 8), (14, 8), (11, 8), (3, 0), (11, 8), (3, 0), (11, 8), (3, 0), (11, 8), (3, 0), (11, 8), (3, 0), (11, 8), (3, 0), (11, 8), (3, 0), (11, 8), (3, 0), (11, 8)]
def j_xs : List (Nat × Nat) := [(9, 0)] ++ j_sc ++ j_sc ++ j_sc ++ [(2, 0), (11, 8), (1, 0), (2, 0), (11, 8), (0, 0), (2, 0), (11, 8), (8, 0)] ++ j_sc ++ [(2, 0), (11, 8), (11, 3), (11, 3), (6, 0), (11, 8), (11, 8), (7, 0), (11, 250), (15, 8),
  (5, 0), (12, 40), (5, 0), (12, 40), (5, 0), (12, 40), (5, 0), (12, 40), (5, 0), (12, 40), (5, 0), (12, 40), (5, 0), (12, 40), (5, 0), (12, 40), (11, 7)]
def j_ms : List (Nat × Nat) := [(10, 0), (11, 12), (11, 8), (11, 8), (11, 8), (11, 8), (11, 8), (11, 8), (11, 64), (11, 250), (11, 8), (11, 8), (12, 320), (11, 7), (11, 127), (11, 127), (11, 12), (11, 8), (11, 8), (11, 8), (11, 8), (13, 8), (11, 8), (11, 3)]
def ΛX : j_L := (121, fun i => (j_xs.getD i (99, 0)).1, fun i => (j_xs.getD i (99, 0)).2)
def ΛM : j_L := (24, fun i => (j_ms.getD i (99, 0)).1, fun i => (j_ms.getD i (99, 0)).2)
def j_obB (Λ : j_L) (i c : Nat) : Bool := decide (i < Λ.1) && (Λ.2.1 i == c)
def j_isB (Λ : j_L) (i c n : Nat) : Bool := decide (i < Λ.1) && (Λ.2.1 i == c && Λ.2.2 i == n)
theorem j_obD {Λ : j_L} {i c : Nat} (h : j_obB Λ i c = true) : j_ob Λ i c := by simpa [j_obB, j_ob] using h
theorem j_isD {Λ : j_L} {i c n : Nat} (h : j_isB Λ i c n = true) : j_is Λ i c n := by simpa [j_isB, j_is, and_assoc] using h
theorem j_xall (P : Nat → Bool) (h : (List.range 121).all P = true) {i : Nat} (hi : i < 121) : P i = true := List.all_eq_true.mp h i (List.mem_range.mpr hi)
theorem j_obX {i c : Nat} (h : j_ob ΛX i c) : j_obB ΛX i c = true := by simpa [j_obB, j_ob] using h
theorem j_isX {i c n : Nat} (h : j_is ΛX i c n) : j_isB ΛX i c n = true := by simpa [j_isB, j_is, and_assoc] using h

theorem lx0_0 {i : Nat} (h : j_ob ΛX i 0) : j_ob ΛX (i + 1) 2 := by
  have := j_xall (fun i => !(j_obB ΛX i 0) || j_obB ΛX (i + 1) 2) (by decide +kernel) h.1
  rw [j_obX h] at this
  exact j_obD (by simpa using this)
theorem lx1_0 {i : Nat} (h : j_ob ΛX i 1) : j_ob ΛX (i + 1) 2 := by
  have := j_xall (fun i => !(j_obB ΛX i 1) || j_obB ΛX (i + 1) 2) (by decide +kernel) h.1
  rw [j_obX h] at this
  exact j_obD (by simpa using this)
theorem lx2_0 {i : Nat} (h : j_ob ΛX i 2) : j_is ΛX (i + 1) 11 8 := by
  have := j_xall (fun i => !(j_obB ΛX i 2) || j_isB ΛX (i + 1) 11 8) (by decide +kernel) h.1
  rw [j_obX h] at this
  exact j_isD (by simpa using this)
theorem lx3_0 {i : Nat} (h : j_ob ΛX i 3) : j_is ΛX (i + 1) 11 8 := by
  have := j_xall (fun i => !(j_obB ΛX i 3) || j_isB ΛX (i + 1) 11 8) (by decide +kernel) h.1
  rw [j_obX h] at this
  exact j_isD (by simpa using this)
theorem lx4_0 {i : Nat} (h : j_ob ΛX i 4) : j_is ΛX (i + 1) 11 12 := by
  have := j_xall (fun i => !(j_obB ΛX i 4) || j_isB ΛX (i + 1) 11 12) (by decide +kernel) h.1
  rw [j_obX h] at this
  exact j_isD (by simpa using this)
theorem lx4_1 {i : Nat} (h : j_ob ΛX i 4) : j_is ΛX (i + 2) 11 8 := by
  have := j_xall (fun i => !(j_obB ΛX i 4) || j_isB ΛX (i + 2) 11 8) (by decide +kernel) h.1
  rw [j_obX h] at this
  exact j_isD (by simpa using this)
theorem lx4_2 {i : Nat} (h : j_ob ΛX i 4) : j_is ΛX (i + 3) 14 8 := by
  have := j_xall (fun i => !(j_obB ΛX i 4) || j_isB ΛX (i + 3) 14 8) (by decide +kernel) h.1
  rw [j_obX h] at this
  exact j_isD (by simpa using this)
theorem lx4_3 {i : Nat} (h : j_ob ΛX i 4) : j_is ΛX (i + 4) 11 8 := by
  have := j_xall (fun i => !(j_obB ΛX i 4) || j_isB ΛX (i + 4) 11 8) (by decide +kernel) h.1
  rw [j_obX h] at this
  exact j_isD (by simpa using this)
theorem lx5_0 {i : Nat} (h : j_ob ΛX i 5) : j_is ΛX (i + 1) 12 40 := by
  have := j_xall (fun i => !(j_obB ΛX i 5) || j_isB ΛX (i + 1) 12 40) (by decide +kernel) h.1
  rw [j_obX h] at this
  exact j_isD (by simpa using this)
theorem lx6_0 {i : Nat} (h : j_ob ΛX i 6) : j_is ΛX (i + 1) 11 8 := by
  have := j_xall (fun i => !(j_obB ΛX i 6) || j_isB ΛX (i + 1) 11 8) (by decide +kernel) h.1
  rw [j_obX h] at this
  exact j_isD (by simpa using this)
theorem lx6_1 {i : Nat} (h : j_ob ΛX i 6) : j_is ΛX (i + 2) 11 8 := by
  have := j_xall (fun i => !(j_obB ΛX i 6) || j_isB ΛX (i + 2) 11 8) (by decide +kernel) h.1
  rw [j_obX h] at this
  exact j_isD (by simpa using this)
theorem lx7_0 {i : Nat} (h : j_ob ΛX i 7) : j_is ΛX (i + 1) 11 250 := by
  have := j_xall (fun i => !(j_obB ΛX i 7) || j_isB ΛX (i + 1) 11 250) (by decide +kernel) h.1
  rw [j_obX h] at this
  exact j_isD (by simpa using this)
theorem lx8_0 {i : Nat} (h : j_ob ΛX i 8) : j_ob ΛX (i + 1) 4 := by
  have := j_xall (fun i => !(j_obB ΛX i 8) || j_obB ΛX (i + 1) 4) (by decide +kernel) h.1
  rw [j_obX h] at this
  exact j_obD (by simpa using this)
theorem lx8_1 {i : Nat} (h : j_ob ΛX i 8) : j_ob ΛX (i + 22) 2 := by
  have := j_xall (fun i => !(j_obB ΛX i 8) || j_obB ΛX (i + 22) 2) (by decide +kernel) h.1
  rw [j_obX h] at this
  exact j_obD (by simpa using this)
theorem lx8_2 {i : Nat} (h : j_ob ΛX i 8) : j_is ΛX (i + 24) 11 3 := by
  have := j_xall (fun i => !(j_obB ΛX i 8) || j_isB ΛX (i + 24) 11 3) (by decide +kernel) h.1
  rw [j_obX h] at this
  exact j_isD (by simpa using this)
theorem lx8_3 {i : Nat} (h : j_ob ΛX i 8) : j_is ΛX (i + 25) 11 3 := by
  have := j_xall (fun i => !(j_obB ΛX i 8) || j_isB ΛX (i + 25) 11 3) (by decide +kernel) h.1
  rw [j_obX h] at this
  exact j_isD (by simpa using this)
theorem lx9_0 {i : Nat} (h : j_ob ΛX i 9) : j_ob ΛX (i + 1) 4 := by
  have := j_xall (fun i => !(j_obB ΛX i 9) || j_obB ΛX (i + 1) 4) (by decide +kernel) h.1
  rw [j_obX h] at this
  exact j_obD (by simpa using this)
theorem lx9_1 {i : Nat} (h : j_ob ΛX i 9) : j_ob ΛX (i + 22) 4 := by
  have := j_xall (fun i => !(j_obB ΛX i 9) || j_obB ΛX (i + 22) 4) (by decide +kernel) h.1
  rw [j_obX h] at this
  exact j_obD (by simpa using this)
theorem lx9_2 {i : Nat} (h : j_ob ΛX i 9) : j_ob ΛX (i + 43) 4 := by
  have := j_xall (fun i => !(j_obB ΛX i 9) || j_obB ΛX (i + 43) 4) (by decide +kernel) h.1
  rw [j_obX h] at this
  exact j_obD (by simpa using this)
theorem lx9_4 {i : Nat} (h : j_ob ΛX i 9) : j_ob ΛX (i + 64) 2 := by
  have := j_xall (fun i => !(j_obB ΛX i 9) || j_obB ΛX (i + 64) 2) (by decide +kernel) h.1
  rw [j_obX h] at this
  exact j_obD (by simpa using this)
theorem lx9_5 {i : Nat} (h : j_ob ΛX i 9) : j_ob ΛX (i + 66) 1 := by
  have := j_xall (fun i => !(j_obB ΛX i 9) || j_obB ΛX (i + 66) 1) (by decide +kernel) h.1
  rw [j_obX h] at this
  exact j_obD (by simpa using this)
theorem lx9_6 {i : Nat} (h : j_ob ΛX i 9) : j_ob ΛX (i + 69) 0 := by
  have := j_xall (fun i => !(j_obB ΛX i 9) || j_obB ΛX (i + 69) 0) (by decide +kernel) h.1
  rw [j_obX h] at this
  exact j_obD (by simpa using this)
theorem lx9_7 {i : Nat} (h : j_ob ΛX i 9) : j_ob ΛX (i + 72) 8 := by
  have := j_xall (fun i => !(j_obB ΛX i 9) || j_obB ΛX (i + 72) 8) (by decide +kernel) h.1
  rw [j_obX h] at this
  exact j_obD (by simpa using this)
theorem lx9_8 {i : Nat} (h : j_ob ΛX i 9) : j_ob ΛX (i + 98) 6 := by
  have := j_xall (fun i => !(j_obB ΛX i 9) || j_obB ΛX (i + 98) 6) (by decide +kernel) h.1
  rw [j_obX h] at this
  exact j_obD (by simpa using this)
theorem lx9_9 {i : Nat} (h : j_ob ΛX i 9) : j_ob ΛX (i + 101) 7 := by
  have := j_xall (fun i => !(j_obB ΛX i 9) || j_obB ΛX (i + 101) 7) (by decide +kernel) h.1
  rw [j_obX h] at this
  exact j_obD (by simpa using this)
theorem lx9_10 {i : Nat} (h : j_ob ΛX i 9) : j_is ΛX (i + 103) 15 8 := by
  have := j_xall (fun i => !(j_obB ΛX i 9) || j_isB ΛX (i + 103) 15 8) (by decide +kernel) h.1
  rw [j_obX h] at this
  exact j_isD (by simpa using this)
theorem lx9_11 {i : Nat} (h : j_ob ΛX i 9) : j_is ΛX (i + 120) 11 7 := by
  have := j_xall (fun i => !(j_obB ΛX i 9) || j_isB ΛX (i + 120) 11 7) (by decide +kernel) h.1
  rw [j_obX h] at this
  exact j_isD (by simpa using this)
theorem lxL {i j : Nat} (h : j_is ΛX i 14 8) (hj : j < 8) : j_ob ΛX (j_ro 14 i j) 3 := by
  have := j_xall (fun i => !(j_isB ΛX i 14 8) || (List.range 8).all (fun j => j_obB ΛX (j_ro 14 i j) 3)) (by decide +kernel) h.1
  rw [j_isX h] at this
  have h2 : (List.range 8).all (fun j => j_obB ΛX (j_ro 14 i j) 3) = true := by simpa using this
  exact j_obD (List.all_eq_true.mp h2 j (List.mem_range.mpr hj))
theorem lxS {i j : Nat} (h : j_is ΛX i 15 8) (hj : j < 8) : j_ob ΛX (j_ro 15 i j) 5 := by
  have := j_xall (fun i => !(j_isB ΛX i 15 8) || (List.range 8).all (fun j => j_obB ΛX (j_ro 15 i j) 5)) (by decide +kernel) h.1
  rw [j_isX h] at this
  have h2 : (List.range 8).all (fun j => j_obB ΛX (j_ro 15 i j) 5) = true := by simpa using this
  exact j_obD (List.all_eq_true.mp h2 j (List.mem_range.mpr hj))
theorem at_sc {i : Nat} (h : j_ob ΛX i 4) : i = 1 ∨ i = 22 ∨ i = 43 ∨ i = 73 := by
  have := j_xall (fun i => !(j_obB ΛX i 4) || (i == 1 || i == 22 || i == 43 || i == 73)) (by decide +kernel) h.1
  rw [j_obX h] at this
  simpa [or_assoc] using this
theorem at_ev {i : Nat} (h : j_ob ΛX i 2) : i = 64 ∨ i = 67 ∨ i = 70 ∨ i = 94 := by
  have := j_xall (fun i => !(j_obB ΛX i 2) || (i == 64 || i == 67 || i == 70 || i == 94)) (by decide +kernel) h.1
  rw [j_obX h] at this
  simpa [or_assoc] using this
theorem at_lk {i : Nat} (h : j_ob ΛX i 3) : i = 6 ∨ i = 8 ∨ i = 10 ∨ i = 12 ∨ i = 14 ∨ i = 16 ∨ i = 18 ∨ i = 20 ∨ i = 27 ∨ i = 29 ∨ i = 31 ∨ i = 33 ∨ i = 35 ∨ i = 37 ∨ i = 39 ∨ i = 41 ∨ i = 48 ∨ i = 50 ∨ i = 52 ∨ i = 54 ∨ i = 56 ∨ i = 58 ∨ i = 60 ∨ i = 62 ∨ i = 78 ∨ i = 80 ∨ i = 82 ∨ i = 84 ∨ i = 86 ∨ i = 88 ∨ i = 90 ∨ i = 92 := by
  have := j_xall (fun i => !(j_obB ΛX i 3) || (i == 6 || i == 8 || i == 10 || i == 12 || i == 14 || i == 16 || i == 18 || i == 20 || i == 27 || i == 29 || i == 31 || i == 33 || i == 35 || i == 37 || i == 39 || i == 41 || i == 48 || i == 50 || i == 52 || i == 54 || i == 56 || i == 58 || i == 60 || i == 62 || i == 78 || i == 80 || i == 82 || i == 84 || i == 86 || i == 88 || i == 90 || i == 92)) (by decide +kernel) h.1
  rw [j_obX h] at this
  simpa [or_assoc] using this
theorem at_sh {i : Nat} (h : j_ob ΛX i 5) : i = 104 ∨ i = 106 ∨ i = 108 ∨ i = 110 ∨ i = 112 ∨ i = 114 ∨ i = 116 ∨ i = 118 := by
  have := j_xall (fun i => !(j_obB ΛX i 5) || (i == 104 || i == 106 || i == 108 || i == 110 || i == 112 || i == 114 || i == 116 || i == 118)) (by decide +kernel) h.1
  rw [j_obX h] at this
  simpa [or_assoc] using this
theorem lm10_0 {i : Nat} (h : j_ob ΛM i 10) : j_is ΛM (i + 1) 11 12 := by
  obtain ⟨h1, h2⟩ := h
  have h3 : i = 0 := by
    have : ∀ i, i < 24 → ΛM.2.1 i = 10 → i = 0 := by decide +kernel
    exact this i h1 h2
  subst h3
  exact j_isD (by decide +kernel)
theorem lm10_2 {i : Nat} (h : j_ob ΛM i 10) : j_is ΛM (i + 2) 11 8 := by
  obtain ⟨h1, h2⟩ := h
  have h3 : i = 0 := by
    have : ∀ i, i < 24 → ΛM.2.1 i = 10 → i = 0 := by decide +kernel
    exact this i h1 h2
  subst h3
  exact j_isD (by decide +kernel)
theorem lm10_3 {i : Nat} (h : j_ob ΛM i 10) : j_is ΛM (i + 3) 11 8 := by
  obtain ⟨h1, h2⟩ := h
  have h3 : i = 0 := by
    have : ∀ i, i < 24 → ΛM.2.1 i = 10 → i = 0 := by decide +kernel
    exact this i h1 h2
  subst h3
  exact j_isD (by decide +kernel)
theorem lm10_4 {i : Nat} (h : j_ob ΛM i 10) : j_is ΛM (i + 4) 11 8 := by
  obtain ⟨h1, h2⟩ := h
  have h3 : i = 0 := by
    have : ∀ i, i < 24 → ΛM.2.1 i = 10 → i = 0 := by decide +kernel
    exact this i h1 h2
  subst h3
  exact j_isD (by decide +kernel)
theorem lm10_5 {i : Nat} (h : j_ob ΛM i 10) : j_is ΛM (i + 5) 11 8 := by
  obtain ⟨h1, h2⟩ := h
  have h3 : i = 0 := by
    have : ∀ i, i < 24 → ΛM.2.1 i = 10 → i = 0 := by decide +kernel
    exact this i h1 h2
  subst h3
  exact j_isD (by decide +kernel)
theorem lm10_6 {i : Nat} (h : j_ob ΛM i 10) : j_is ΛM (i + 6) 11 8 := by
  obtain ⟨h1, h2⟩ := h
  have h3 : i = 0 := by
    have : ∀ i, i < 24 → ΛM.2.1 i = 10 → i = 0 := by decide +kernel
    exact this i h1 h2
  subst h3
  exact j_isD (by decide +kernel)
theorem lm10_7 {i : Nat} (h : j_ob ΛM i 10) : j_is ΛM (i + 7) 11 8 := by
  obtain ⟨h1, h2⟩ := h
  have h3 : i = 0 := by
    have : ∀ i, i < 24 → ΛM.2.1 i = 10 → i = 0 := by decide +kernel
    exact this i h1 h2
  subst h3
  exact j_isD (by decide +kernel)
theorem lm10_8 {i : Nat} (h : j_ob ΛM i 10) : j_is ΛM (i + 8) 11 64 := by
  obtain ⟨h1, h2⟩ := h
  have h3 : i = 0 := by
    have : ∀ i, i < 24 → ΛM.2.1 i = 10 → i = 0 := by decide +kernel
    exact this i h1 h2
  subst h3
  exact j_isD (by decide +kernel)
theorem lm10_12 {i : Nat} (h : j_ob ΛM i 10) : j_is ΛM (i + 9) 11 250 := by
  obtain ⟨h1, h2⟩ := h
  have h3 : i = 0 := by
    have : ∀ i, i < 24 → ΛM.2.1 i = 10 → i = 0 := by decide +kernel
    exact this i h1 h2
  subst h3
  exact j_isD (by decide +kernel)
theorem lm10_17 {i : Nat} (h : j_ob ΛM i 10) : j_is ΛM (i + 10) 11 8 := by
  obtain ⟨h1, h2⟩ := h
  have h3 : i = 0 := by
    have : ∀ i, i < 24 → ΛM.2.1 i = 10 → i = 0 := by decide +kernel
    exact this i h1 h2
  subst h3
  exact j_isD (by decide +kernel)
theorem lm10_18 {i : Nat} (h : j_ob ΛM i 10) : j_is ΛM (i + 11) 11 8 := by
  obtain ⟨h1, h2⟩ := h
  have h3 : i = 0 := by
    have : ∀ i, i < 24 → ΛM.2.1 i = 10 → i = 0 := by decide +kernel
    exact this i h1 h2
  subst h3
  exact j_isD (by decide +kernel)
theorem lm10_19 {i : Nat} (h : j_ob ΛM i 10) : j_is ΛM (i + 12) 12 320 := by
  obtain ⟨h1, h2⟩ := h
  have h3 : i = 0 := by
    have : ∀ i, i < 24 → ΛM.2.1 i = 10 → i = 0 := by decide +kernel
    exact this i h1 h2
  subst h3
  exact j_isD (by decide +kernel)
theorem lm10_20 {i : Nat} (h : j_ob ΛM i 10) : j_is ΛM (i + 13) 11 7 := by
  obtain ⟨h1, h2⟩ := h
  have h3 : i = 0 := by
    have : ∀ i, i < 24 → ΛM.2.1 i = 10 → i = 0 := by decide +kernel
    exact this i h1 h2
  subst h3
  exact j_isD (by decide +kernel)
theorem lm10_22 {i : Nat} (h : j_ob ΛM i 10) : j_is ΛM (i + 14) 11 127 := by
  obtain ⟨h1, h2⟩ := h
  have h3 : i = 0 := by
    have : ∀ i, i < 24 → ΛM.2.1 i = 10 → i = 0 := by decide +kernel
    exact this i h1 h2
  subst h3
  exact j_isD (by decide +kernel)
theorem lm10_23 {i : Nat} (h : j_ob ΛM i 10) : j_is ΛM (i + 15) 11 127 := by
  obtain ⟨h1, h2⟩ := h
  have h3 : i = 0 := by
    have : ∀ i, i < 24 → ΛM.2.1 i = 10 → i = 0 := by decide +kernel
    exact this i h1 h2
  subst h3
  exact j_isD (by decide +kernel)
theorem lm10_24 {i : Nat} (h : j_ob ΛM i 10) : j_is ΛM (i + 16) 11 12 := by
  obtain ⟨h1, h2⟩ := h
  have h3 : i = 0 := by
    have : ∀ i, i < 24 → ΛM.2.1 i = 10 → i = 0 := by decide +kernel
    exact this i h1 h2
  subst h3
  exact j_isD (by decide +kernel)
theorem lm10_26 {i : Nat} (h : j_ob ΛM i 10) : j_is ΛM (i + 17) 11 8 := by
  obtain ⟨h1, h2⟩ := h
  have h3 : i = 0 := by
    have : ∀ i, i < 24 → ΛM.2.1 i = 10 → i = 0 := by decide +kernel
    exact this i h1 h2
  subst h3
  exact j_isD (by decide +kernel)
theorem lm10_27 {i : Nat} (h : j_ob ΛM i 10) : j_is ΛM (i + 18) 11 8 := by
  obtain ⟨h1, h2⟩ := h
  have h3 : i = 0 := by
    have : ∀ i, i < 24 → ΛM.2.1 i = 10 → i = 0 := by decide +kernel
    exact this i h1 h2
  subst h3
  exact j_isD (by decide +kernel)
theorem lm10_28 {i : Nat} (h : j_ob ΛM i 10) : j_is ΛM (i + 19) 11 8 := by
  obtain ⟨h1, h2⟩ := h
  have h3 : i = 0 := by
    have : ∀ i, i < 24 → ΛM.2.1 i = 10 → i = 0 := by decide +kernel
    exact this i h1 h2
  subst h3
  exact j_isD (by decide +kernel)
theorem lm10_29 {i : Nat} (h : j_ob ΛM i 10) : j_is ΛM (i + 20) 11 8 := by
  obtain ⟨h1, h2⟩ := h
  have h3 : i = 0 := by
    have : ∀ i, i < 24 → ΛM.2.1 i = 10 → i = 0 := by decide +kernel
    exact this i h1 h2
  subst h3
  exact j_isD (by decide +kernel)
theorem lm10_30 {i : Nat} (h : j_ob ΛM i 10) : j_is ΛM (i + 21) 13 8 := by
  obtain ⟨h1, h2⟩ := h
  have h3 : i = 0 := by
    have : ∀ i, i < 24 → ΛM.2.1 i = 10 → i = 0 := by decide +kernel
    exact this i h1 h2
  subst h3
  exact j_isD (by decide +kernel)
theorem lm10_31 {i : Nat} (h : j_ob ΛM i 10) : j_is ΛM (i + 22) 11 8 := by
  obtain ⟨h1, h2⟩ := h
  have h3 : i = 0 := by
    have : ∀ i, i < 24 → ΛM.2.1 i = 10 → i = 0 := by decide +kernel
    exact this i h1 h2
  subst h3
  exact j_isD (by decide +kernel)
theorem lm10_32 {i : Nat} (h : j_ob ΛM i 10) : j_is ΛM (i + 23) 11 3 := by
  obtain ⟨h1, h2⟩ := h
  have h3 : i = 0 := by
    have : ∀ i, i < 24 → ΛM.2.1 i = 10 → i = 0 := by decide +kernel
    exact this i h1 h2
  subst h3
  exact j_isD (by decide +kernel)
theorem lm0 : j_ob ΛM 0 10 := j_obD (by decide +kernel)
theorem lx0 : j_ob ΛX 0 9 := j_obD (by decide +kernel)
theorem fX0_12 : j_fl RX0 12 0 0 (tyX0 0) true := ⟨RX0, TX0, 1, tyX0, rfl, by decide, by decide, rfl, uw0, tyX0_ok, nmX0, tyX0_ok 0 (by decide), rfl, Or.inl flX0_12⟩
theorem fX0_18 : j_fl RX0 18 4 5 (tyX4 5) false := ⟨RX4, TX4, 8, tyX4, rfl, by decide, by decide, rfl, uw4, tyX4_ok, nmX4, tyX4_ok 5 (by decide), rfl, Or.inr ⟨_, flX0_18⟩⟩
theorem fX0_24 : j_fl RX0 24 4 2 (tyX4 2) true := ⟨RX4, TX4, 8, tyX4, rfl, by decide, by decide, rfl, uw4, tyX4_ok, nmX4, tyX4_ok 2 (by decide), rfl, Or.inr ⟨_, flX0_24⟩⟩
theorem fX0_28 : j_fl RX0 28 3 5 (tyX3 5) false := ⟨RX3, TX3, 7, tyX3, rfl, by decide, by decide, rfl, uw3, tyX3_ok, nmX3, tyX3_ok 5 (by decide), rfl, Or.inr ⟨_, flX0_28⟩⟩
theorem fX0_39 : j_fl RX0 39 4 4 (tyX4 4) false := ⟨RX4, TX4, 8, tyX4, rfl, by decide, by decide, rfl, uw4, tyX4_ok, nmX4, tyX4_ok 4 (by decide), rfl, Or.inr ⟨_, flX0_39⟩⟩
theorem fX0_46 : j_fl RX0 46 2 1 (tyX2 1) false := ⟨RX2, TX2, 4, tyX2, rfl, by decide, by decide, rfl, uw2, tyX2_ok, nmX2, tyX2_ok 1 (by decide), rfl, Or.inr ⟨_, flX0_46⟩⟩
theorem fX0_59 : j_fl RX0 59 2 2 (tyX2 2) false := ⟨RX2, TX2, 4, tyX2, rfl, by decide, by decide, rfl, uw2, tyX2_ok, nmX2, tyX2_ok 2 (by decide), rfl, Or.inr ⟨_, flX0_59⟩⟩
theorem fX1_12 : j_fl RX1 12 1 0 (tyX1 0) true := ⟨RX1, TX1, 5, tyX1, rfl, by decide, by decide, rfl, uw1, tyX1_ok, nmX1, tyX1_ok 0 (by decide), rfl, Or.inl flX1_12⟩
theorem fX1_24 : j_fl RX1 24 1 1 (tyX1 1) false := ⟨RX1, TX1, 5, tyX1, rfl, by decide, by decide, rfl, uw1, tyX1_ok, nmX1, tyX1_ok 1 (by decide), rfl, Or.inl flX1_24⟩
theorem fX1_28 : j_fl RX1 28 1 2 (tyX1 2) false := ⟨RX1, TX1, 5, tyX1, rfl, by decide, by decide, rfl, uw1, tyX1_ok, nmX1, tyX1_ok 2 (by decide), rfl, Or.inl flX1_28⟩
theorem fX1_37 : j_fl RX1 37 4 4 (tyX4 4) false := ⟨RX4, TX4, 8, tyX4, rfl, by decide, by decide, rfl, uw4, tyX4_ok, nmX4, tyX4_ok 4 (by decide), rfl, Or.inr ⟨_, flX1_37⟩⟩
theorem fX1_44 : j_fl RX1 44 2 2 (tyX2 2) false := ⟨RX2, TX2, 4, tyX2, rfl, by decide, by decide, rfl, uw2, tyX2_ok, nmX2, tyX2_ok 2 (by decide), rfl, Or.inr ⟨_, flX1_44⟩⟩
theorem fX1_47 : j_fl RX1 47 1 3 (tyX1 3) false := ⟨RX1, TX1, 5, tyX1, rfl, by decide, by decide, rfl, uw1, tyX1_ok, nmX1, tyX1_ok 3 (by decide), rfl, Or.inl flX1_47⟩
theorem fX1_50 : j_fl RX1 50 1 4 (tyX1 4) false := ⟨RX1, TX1, 5, tyX1, rfl, by decide, by decide, rfl, uw1, tyX1_ok, nmX1, tyX1_ok 4 (by decide), rfl, Or.inl flX1_50⟩
theorem fX1_53 : j_fl RX1 53 2 1 (tyX2 1) false := ⟨RX2, TX2, 4, tyX2, rfl, by decide, by decide, rfl, uw2, tyX2_ok, nmX2, tyX2_ok 1 (by decide), rfl, Or.inr ⟨_, flX1_53⟩⟩
theorem fX10_9 : j_fl RX10 9 10 0 (tyX10 0) true := ⟨RX10, TX10, 33, tyX10, rfl, by decide, by decide, rfl, uw10, tyX10_ok, nmX10, tyX10_ok 0 (by decide), rfl, Or.inl flX10_9⟩
theorem fX10_13 : j_fl RX10 13 10 2 (tyX10 2) true := ⟨RX10, TX10, 33, tyX10, rfl, by decide, by decide, rfl, uw10, tyX10_ok, nmX10, tyX10_ok 2 (by decide), rfl, Or.inl flX10_13⟩
theorem fX10_16 : j_fl RX10 16 10 3 (tyX10 3) true := ⟨RX10, TX10, 33, tyX10, rfl, by decide, by decide, rfl, uw10, tyX10_ok, nmX10, tyX10_ok 3 (by decide), rfl, Or.inl flX10_16⟩
theorem fX10_19 : j_fl RX10 19 10 4 (tyX10 4) true := ⟨RX10, TX10, 33, tyX10, rfl, by decide, by decide, rfl, uw10, tyX10_ok, nmX10, tyX10_ok 4 (by decide), rfl, Or.inl flX10_19⟩
theorem fX10_22 : j_fl RX10 22 10 5 (tyX10 5) true := ⟨RX10, TX10, 33, tyX10, rfl, by decide, by decide, rfl, uw10, tyX10_ok, nmX10, tyX10_ok 5 (by decide), rfl, Or.inl flX10_22⟩
theorem fX10_25 : j_fl RX10 25 10 6 (tyX10 6) true := ⟨RX10, TX10, 33, tyX10, rfl, by decide, by decide, rfl, uw10, tyX10_ok, nmX10, tyX10_ok 6 (by decide), rfl, Or.inl flX10_25⟩
theorem fX10_28 : j_fl RX10 28 10 7 (tyX10 7) true := ⟨RX10, TX10, 33, tyX10, rfl, by decide, by decide, rfl, uw10, tyX10_ok, nmX10, tyX10_ok 7 (by decide), rfl, Or.inl flX10_28⟩
theorem fX10_31 : j_fl RX10 31 10 8 (tyX10 8) true := ⟨RX10, TX10, 33, tyX10, rfl, by decide, by decide, rfl, uw10, tyX10_ok, nmX10, tyX10_ok 8 (by decide), rfl, Or.inl flX10_31⟩
theorem fX10_34 : j_fl RX10 34 10 12 (tyX10 12) true := ⟨RX10, TX10, 33, tyX10, rfl, by decide, by decide, rfl, uw10, tyX10_ok, nmX10, tyX10_ok 12 (by decide), rfl, Or.inl flX10_34⟩
theorem fX10_37 : j_fl RX10 37 10 17 (tyX10 17) true := ⟨RX10, TX10, 33, tyX10, rfl, by decide, by decide, rfl, uw10, tyX10_ok, nmX10, tyX10_ok 17 (by decide), rfl, Or.inl flX10_37⟩
theorem fX10_40 : j_fl RX10 40 10 18 (tyX10 18) true := ⟨RX10, TX10, 33, tyX10, rfl, by decide, by decide, rfl, uw10, tyX10_ok, nmX10, tyX10_ok 18 (by decide), rfl, Or.inl flX10_40⟩
theorem fX10_43 : j_fl RX10 43 10 19 (tyX10 19) true := ⟨RX10, TX10, 33, tyX10, rfl, by decide, by decide, rfl, uw10, tyX10_ok, nmX10, tyX10_ok 19 (by decide), rfl, Or.inl flX10_43⟩
theorem fX10_47 : j_fl RX10 47 10 20 (tyX10 20) true := ⟨RX10, TX10, 33, tyX10, rfl, by decide, by decide, rfl, uw10, tyX10_ok, nmX10, tyX10_ok 20 (by decide), rfl, Or.inl flX10_47⟩
theorem fX10_50 : j_fl RX10 50 10 22 (tyX10 22) true := ⟨RX10, TX10, 33, tyX10, rfl, by decide, by decide, rfl, uw10, tyX10_ok, nmX10, tyX10_ok 22 (by decide), rfl, Or.inl flX10_50⟩
theorem fX10_53 : j_fl RX10 53 10 23 (tyX10 23) true := ⟨RX10, TX10, 33, tyX10, rfl, by decide, by decide, rfl, uw10, tyX10_ok, nmX10, tyX10_ok 23 (by decide), rfl, Or.inl flX10_53⟩
theorem fX10_56 : j_fl RX10 56 10 24 (tyX10 24) true := ⟨RX10, TX10, 33, tyX10, rfl, by decide, by decide, rfl, uw10, tyX10_ok, nmX10, tyX10_ok 24 (by decide), rfl, Or.inl flX10_56⟩
theorem fX10_59 : j_fl RX10 59 10 26 (tyX10 26) true := ⟨RX10, TX10, 33, tyX10, rfl, by decide, by decide, rfl, uw10, tyX10_ok, nmX10, tyX10_ok 26 (by decide), rfl, Or.inl flX10_59⟩
theorem fX10_62 : j_fl RX10 62 10 27 (tyX10 27) true := ⟨RX10, TX10, 33, tyX10, rfl, by decide, by decide, rfl, uw10, tyX10_ok, nmX10, tyX10_ok 27 (by decide), rfl, Or.inl flX10_62⟩
theorem fX10_65 : j_fl RX10 65 10 28 (tyX10 28) true := ⟨RX10, TX10, 33, tyX10, rfl, by decide, by decide, rfl, uw10, tyX10_ok, nmX10, tyX10_ok 28 (by decide), rfl, Or.inl flX10_65⟩
theorem fX10_68 : j_fl RX10 68 10 29 (tyX10 29) true := ⟨RX10, TX10, 33, tyX10, rfl, by decide, by decide, rfl, uw10, tyX10_ok, nmX10, tyX10_ok 29 (by decide), rfl, Or.inl flX10_68⟩
theorem fX10_71 : j_fl RX10 71 10 30 (tyX10 30) true := ⟨RX10, TX10, 33, tyX10, rfl, by decide, by decide, rfl, uw10, tyX10_ok, nmX10, tyX10_ok 30 (by decide), rfl, Or.inl flX10_71⟩
theorem fX10_75 : j_fl RX10 75 10 31 (tyX10 31) true := ⟨RX10, TX10, 33, tyX10, rfl, by decide, by decide, rfl, uw10, tyX10_ok, nmX10, tyX10_ok 31 (by decide), rfl, Or.inl flX10_75⟩
theorem fX10_78 : j_fl RX10 78 10 32 (tyX10 32) true := ⟨RX10, TX10, 33, tyX10, rfl, by decide, by decide, rfl, uw10, tyX10_ok, nmX10, tyX10_ok 32 (by decide), rfl, Or.inl flX10_78⟩
theorem fX10_81 : j_fl RX10 81 10 10 (tyX10 10) false := ⟨RX10, TX10, 33, tyX10, rfl, by decide, by decide, rfl, uw10, tyX10_ok, nmX10, tyX10_ok 10 (by decide), rfl, Or.inl flX10_81⟩
theorem fX10_89 : j_fl RX10 89 10 1 (tyX10 1) false := ⟨RX10, TX10, 33, tyX10, rfl, by decide, by decide, rfl, uw10, tyX10_ok, nmX10, tyX10_ok 1 (by decide), rfl, Or.inl flX10_89⟩
theorem fX10_131 : j_fl RX10 131 10 11 (tyX10 11) false := ⟨RX10, TX10, 33, tyX10, rfl, by decide, by decide, rfl, uw10, tyX10_ok, nmX10, tyX10_ok 11 (by decide), rfl, Or.inl flX10_131⟩
theorem fX10_134 : j_fl RX10 134 10 14 (tyX10 14) false := ⟨RX10, TX10, 33, tyX10, rfl, by decide, by decide, rfl, uw10, tyX10_ok, nmX10, tyX10_ok 14 (by decide), rfl, Or.inl flX10_134⟩
theorem fX10_137 : j_fl RX10 137 10 13 (tyX10 13) false := ⟨RX10, TX10, 33, tyX10, rfl, by decide, by decide, rfl, uw10, tyX10_ok, nmX10, tyX10_ok 13 (by decide), rfl, Or.inl flX10_137⟩
theorem fX10_140 : j_fl RX10 140 10 15 (tyX10 15) false := ⟨RX10, TX10, 33, tyX10, rfl, by decide, by decide, rfl, uw10, tyX10_ok, nmX10, tyX10_ok 15 (by decide), rfl, Or.inl flX10_140⟩
theorem fX10_149 : j_fl RX10 149 10 16 (tyX10 16) false := ⟨RX10, TX10, 33, tyX10, rfl, by decide, by decide, rfl, uw10, tyX10_ok, nmX10, tyX10_ok 16 (by decide), rfl, Or.inl flX10_149⟩
theorem fX10_219 : j_fl RX10 219 10 25 (tyX10 25) false := ⟨RX10, TX10, 33, tyX10, rfl, by decide, by decide, rfl, uw10, tyX10_ok, nmX10, tyX10_ok 25 (by decide), rfl, Or.inl flX10_219⟩
theorem fX10_304 : j_fl RX10 304 10 9 (tyX10 9) false := ⟨RX10, TX10, 33, tyX10, rfl, by decide, by decide, rfl, uw10, tyX10_ok, nmX10, tyX10_ok 9 (by decide), rfl, Or.inl flX10_304⟩
theorem fX10_317 : j_fl RX10 317 10 21 (tyX10 21) false := ⟨RX10, TX10, 33, tyX10, rfl, by decide, by decide, rfl, uw10, tyX10_ok, nmX10, tyX10_ok 21 (by decide), rfl, Or.inl flX10_317⟩
theorem fX2_9 : j_fl RX2 9 2 0 (tyX2 0) true := ⟨RX2, TX2, 4, tyX2, rfl, by decide, by decide, rfl, uw2, tyX2_ok, nmX2, tyX2_ok 0 (by decide), rfl, Or.inl flX2_9⟩
theorem fX2_15 : j_fl RX2 15 2 1 (tyX2 1) false := ⟨RX2, TX2, 4, tyX2, rfl, by decide, by decide, rfl, uw2, tyX2_ok, nmX2, tyX2_ok 1 (by decide), rfl, Or.inl flX2_15⟩
theorem fX2_19 : j_fl RX2 19 2 2 (tyX2 2) false := ⟨RX2, TX2, 4, tyX2, rfl, by decide, by decide, rfl, uw2, tyX2_ok, nmX2, tyX2_ok 2 (by decide), rfl, Or.inl flX2_19⟩
theorem fX2_22 : j_fl RX2 22 2 3 (tyX2 3) false := ⟨RX2, TX2, 4, tyX2, rfl, by decide, by decide, rfl, uw2, tyX2_ok, nmX2, tyX2_ok 3 (by decide), rfl, Or.inl flX2_22⟩
theorem fX2_25 : j_fl RX2 25 4 5 (tyX4 5) false := ⟨RX4, TX4, 8, tyX4, rfl, by decide, by decide, rfl, uw4, tyX4_ok, nmX4, tyX4_ok 5 (by decide), rfl, Or.inr ⟨_, flX2_25⟩⟩
theorem fX2_30 : j_fl RX2 30 4 3 (tyX4 3) true := ⟨RX4, TX4, 8, tyX4, rfl, by decide, by decide, rfl, uw4, tyX4_ok, nmX4, tyX4_ok 3 (by decide), rfl, Or.inr ⟨_, flX2_30⟩⟩
theorem fX2_33 : j_fl RX2 33 4 2 (tyX4 2) true := ⟨RX4, TX4, 8, tyX4, rfl, by decide, by decide, rfl, uw4, tyX4_ok, nmX4, tyX4_ok 2 (by decide), rfl, Or.inr ⟨_, flX2_33⟩⟩
theorem fX2_41 : j_fl RX2 41 4 1 (tyX4 1) true := ⟨RX4, TX4, 8, tyX4, rfl, by decide, by decide, rfl, uw4, tyX4_ok, nmX4, tyX4_ok 1 (by decide), rfl, Or.inr ⟨_, flX2_41⟩⟩
theorem fX2_44 : j_fl RX2 44 3 2 (tyX3 2) false := ⟨RX3, TX3, 7, tyX3, rfl, by decide, by decide, rfl, uw3, tyX3_ok, nmX3, tyX3_ok 2 (by decide), rfl, Or.inr ⟨_, flX2_44⟩⟩
theorem fX2_49 : j_fl RX2 49 4 4 (tyX4 4) false := ⟨RX4, TX4, 8, tyX4, rfl, by decide, by decide, rfl, uw4, tyX4_ok, nmX4, tyX4_ok 4 (by decide), rfl, Or.inr ⟨_, flX2_49⟩⟩
theorem fX2_64 : j_fl RX2 64 4 6 (tyX4 6) false := ⟨RX4, TX4, 8, tyX4, rfl, by decide, by decide, rfl, uw4, tyX4_ok, nmX4, tyX4_ok 6 (by decide), rfl, Or.inr ⟨_, flX2_64⟩⟩
theorem fX2_76 : j_fl RX2 76 4 0 (tyX4 0) true := ⟨RX4, TX4, 8, tyX4, rfl, by decide, by decide, rfl, uw4, tyX4_ok, nmX4, tyX4_ok 0 (by decide), rfl, Or.inr ⟨_, flX2_76⟩⟩
theorem fX2_83 : j_fl RX2 83 3 6 (tyX3 6) false := ⟨RX3, TX3, 7, tyX3, rfl, by decide, by decide, rfl, uw3, tyX3_ok, nmX3, tyX3_ok 6 (by decide), rfl, Or.inr ⟨_, flX2_83⟩⟩
theorem fX3_9 : j_fl RX3 9 3 0 (tyX3 0) true := ⟨RX3, TX3, 7, tyX3, rfl, by decide, by decide, rfl, uw3, tyX3_ok, nmX3, tyX3_ok 0 (by decide), rfl, Or.inl flX3_9⟩
theorem fX3_15 : j_fl RX3 15 3 1 (tyX3 1) false := ⟨RX3, TX3, 7, tyX3, rfl, by decide, by decide, rfl, uw3, tyX3_ok, nmX3, tyX3_ok 1 (by decide), rfl, Or.inl flX3_15⟩
theorem fX3_19 : j_fl RX3 19 3 2 (tyX3 2) false := ⟨RX3, TX3, 7, tyX3, rfl, by decide, by decide, rfl, uw3, tyX3_ok, nmX3, tyX3_ok 2 (by decide), rfl, Or.inl flX3_19⟩
theorem fX3_22 : j_fl RX3 22 3 3 (tyX3 3) false := ⟨RX3, TX3, 7, tyX3, rfl, by decide, by decide, rfl, uw3, tyX3_ok, nmX3, tyX3_ok 3 (by decide), rfl, Or.inl flX3_22⟩
theorem fX3_25 : j_fl RX3 25 3 4 (tyX3 4) false := ⟨RX3, TX3, 7, tyX3, rfl, by decide, by decide, rfl, uw3, tyX3_ok, nmX3, tyX3_ok 4 (by decide), rfl, Or.inl flX3_25⟩
theorem fX3_28 : j_fl RX3 28 3 5 (tyX3 5) false := ⟨RX3, TX3, 7, tyX3, rfl, by decide, by decide, rfl, uw3, tyX3_ok, nmX3, tyX3_ok 5 (by decide), rfl, Or.inl flX3_28⟩
theorem fX3_31 : j_fl RX3 31 3 6 (tyX3 6) false := ⟨RX3, TX3, 7, tyX3, rfl, by decide, by decide, rfl, uw3, tyX3_ok, nmX3, tyX3_ok 6 (by decide), rfl, Or.inl flX3_31⟩
theorem fX4_9 : j_fl RX4 9 4 0 (tyX4 0) true := ⟨RX4, TX4, 8, tyX4, rfl, by decide, by decide, rfl, uw4, tyX4_ok, nmX4, tyX4_ok 0 (by decide), rfl, Or.inl flX4_9⟩
theorem fX4_15 : j_fl RX4 15 4 1 (tyX4 1) true := ⟨RX4, TX4, 8, tyX4, rfl, by decide, by decide, rfl, uw4, tyX4_ok, nmX4, tyX4_ok 1 (by decide), rfl, Or.inl flX4_15⟩
theorem fX4_20 : j_fl RX4 20 4 2 (tyX4 2) true := ⟨RX4, TX4, 8, tyX4, rfl, by decide, by decide, rfl, uw4, tyX4_ok, nmX4, tyX4_ok 2 (by decide), rfl, Or.inl flX4_20⟩
theorem fX4_24 : j_fl RX4 24 4 3 (tyX4 3) true := ⟨RX4, TX4, 8, tyX4, rfl, by decide, by decide, rfl, uw4, tyX4_ok, nmX4, tyX4_ok 3 (by decide), rfl, Or.inl flX4_24⟩
theorem fX4_27 : j_fl RX4 27 4 7 (tyX4 7) false := ⟨RX4, TX4, 8, tyX4, rfl, by decide, by decide, rfl, uw4, tyX4_ok, nmX4, tyX4_ok 7 (by decide), rfl, Or.inl flX4_27⟩
theorem fX4_44 : j_fl RX4 44 4 5 (tyX4 5) false := ⟨RX4, TX4, 8, tyX4, rfl, by decide, by decide, rfl, uw4, tyX4_ok, nmX4, tyX4_ok 5 (by decide), rfl, Or.inl flX4_44⟩
theorem fX4_51 : j_fl RX4 51 4 4 (tyX4 4) false := ⟨RX4, TX4, 8, tyX4, rfl, by decide, by decide, rfl, uw4, tyX4_ok, nmX4, tyX4_ok 4 (by decide), rfl, Or.inl flX4_51⟩
theorem fX4_54 : j_fl RX4 54 4 6 (tyX4 6) false := ⟨RX4, TX4, 8, tyX4, rfl, by decide, by decide, rfl, uw4, tyX4_ok, nmX4, tyX4_ok 6 (by decide), rfl, Or.inl flX4_54⟩
theorem fX4_68 : j_fl RX4 68 3 3 (tyX3 3) false := ⟨RX3, TX3, 7, tyX3, rfl, by decide, by decide, rfl, uw3, tyX3_ok, nmX3, tyX3_ok 3 (by decide), rfl, Or.inr ⟨_, flX4_68⟩⟩
theorem fX4_71 : j_fl RX4 71 3 2 (tyX3 2) false := ⟨RX3, TX3, 7, tyX3, rfl, by decide, by decide, rfl, uw3, tyX3_ok, nmX3, tyX3_ok 2 (by decide), rfl, Or.inr ⟨_, flX4_71⟩⟩
theorem fX4_82 : j_fl RX4 82 3 1 (tyX3 1) false := ⟨RX3, TX3, 7, tyX3, rfl, by decide, by decide, rfl, uw3, tyX3_ok, nmX3, tyX3_ok 1 (by decide), rfl, Or.inr ⟨_, flX4_82⟩⟩
theorem fX4_117 : j_fl RX4 117 3 6 (tyX3 6) false := ⟨RX3, TX3, 7, tyX3, rfl, by decide, by decide, rfl, uw3, tyX3_ok, nmX3, tyX3_ok 6 (by decide), rfl, Or.inr ⟨_, flX4_117⟩⟩
theorem fX4_143 : j_fl RX4 143 3 5 (tyX3 5) false := ⟨RX3, TX3, 7, tyX3, rfl, by decide, by decide, rfl, uw3, tyX3_ok, nmX3, tyX3_ok 5 (by decide), rfl, Or.inr ⟨_, flX4_143⟩⟩
theorem fX5_9 : j_fl RX5 9 5 0 (tyX5 0) true := ⟨RX5, TX5, 3, tyX5, rfl, by decide, by decide, rfl, uw5, tyX5_ok, nmX5, tyX5_ok 0 (by decide), rfl, Or.inl flX5_9⟩
theorem fX5_15 : j_fl RX5 15 5 1 (tyX5 1) false := ⟨RX5, TX5, 3, tyX5, rfl, by decide, by decide, rfl, uw5, tyX5_ok, nmX5, tyX5_ok 1 (by decide), rfl, Or.inl flX5_15⟩
theorem fX5_19 : j_fl RX5 19 5 2 (tyX5 2) false := ⟨RX5, TX5, 3, tyX5, rfl, by decide, by decide, rfl, uw5, tyX5_ok, nmX5, tyX5_ok 2 (by decide), rfl, Or.inl flX5_19⟩
theorem fX6_9 : j_fl RX6 9 6 0 (tyX6 0) true := ⟨RX6, TX6, 2, tyX6, rfl, by decide, by decide, rfl, uw6, tyX6_ok, nmX6, tyX6_ok 0 (by decide), rfl, Or.inl flX6_9⟩
theorem fX6_15 : j_fl RX6 15 6 1 (tyX6 1) true := ⟨RX6, TX6, 2, tyX6, rfl, by decide, by decide, rfl, uw6, tyX6_ok, nmX6, tyX6_ok 1 (by decide), rfl, Or.inl flX6_15⟩
theorem fX6_34 : j_fl RX6 34 4 5 (tyX4 5) false := ⟨RX4, TX4, 8, tyX4, rfl, by decide, by decide, rfl, uw4, tyX4_ok, nmX4, tyX4_ok 5 (by decide), rfl, Or.inr ⟨_, flX6_34⟩⟩
theorem fX6_46 : j_fl RX6 46 4 2 (tyX4 2) true := ⟨RX4, TX4, 8, tyX4, rfl, by decide, by decide, rfl, uw4, tyX4_ok, nmX4, tyX4_ok 2 (by decide), rfl, Or.inr ⟨_, flX6_46⟩⟩
theorem fX6_50 : j_fl RX6 50 3 6 (tyX3 6) false := ⟨RX3, TX3, 7, tyX3, rfl, by decide, by decide, rfl, uw3, tyX3_ok, nmX3, tyX3_ok 6 (by decide), rfl, Or.inr ⟨_, flX6_50⟩⟩
theorem fX6_55 : j_fl RX6 55 3 2 (tyX3 2) false := ⟨RX3, TX3, 7, tyX3, rfl, by decide, by decide, rfl, uw3, tyX3_ok, nmX3, tyX3_ok 2 (by decide), rfl, Or.inr ⟨_, flX6_55⟩⟩
theorem fX6_61 : j_fl RX6 61 3 4 (tyX3 4) false := ⟨RX3, TX3, 7, tyX3, rfl, by decide, by decide, rfl, uw3, tyX3_ok, nmX3, tyX3_ok 4 (by decide), rfl, Or.inr ⟨_, flX6_61⟩⟩
theorem fX7_9 : j_fl RX7 9 7 0 (tyX7 0) true := ⟨RX7, TX7, 4, tyX7, rfl, by decide, by decide, rfl, uw7, tyX7_ok, nmX7, tyX7_ok 0 (by decide), rfl, Or.inl flX7_9⟩
theorem fX7_15 : j_fl RX7 15 7 3 (tyX7 3) false := ⟨RX7, TX7, 4, tyX7, rfl, by decide, by decide, rfl, uw7, tyX7_ok, nmX7, tyX7_ok 3 (by decide), rfl, Or.inl flX7_15⟩
theorem fX7_19 : j_fl RX7 19 7 1 (tyX7 1) false := ⟨RX7, TX7, 4, tyX7, rfl, by decide, by decide, rfl, uw7, tyX7_ok, nmX7, tyX7_ok 1 (by decide), rfl, Or.inl flX7_19⟩
theorem fX7_22 : j_fl RX7 22 7 2 (tyX7 2) false := ⟨RX7, TX7, 4, tyX7, rfl, by decide, by decide, rfl, uw7, tyX7_ok, nmX7, tyX7_ok 2 (by decide), rfl, Or.inl flX7_22⟩
theorem fX7_76 : j_fl RX7 76 4 5 (tyX4 5) false := ⟨RX4, TX4, 8, tyX4, rfl, by decide, by decide, rfl, uw4, tyX4_ok, nmX4, tyX4_ok 5 (by decide), rfl, Or.inr ⟨_, flX7_76⟩⟩
theorem fX7_79 : j_fl RX7 79 4 2 (tyX4 2) true := ⟨RX4, TX4, 8, tyX4, rfl, by decide, by decide, rfl, uw4, tyX4_ok, nmX4, tyX4_ok 2 (by decide), rfl, Or.inr ⟨_, flX7_79⟩⟩
theorem fX7_89 : j_fl RX7 89 3 5 (tyX3 5) false := ⟨RX3, TX3, 7, tyX3, rfl, by decide, by decide, rfl, uw3, tyX3_ok, nmX3, tyX3_ok 5 (by decide), rfl, Or.inr ⟨_, flX7_89⟩⟩
theorem fX7_92 : j_fl RX7 92 3 6 (tyX3 6) false := ⟨RX3, TX3, 7, tyX3, rfl, by decide, by decide, rfl, uw3, tyX3_ok, nmX3, tyX3_ok 6 (by decide), rfl, Or.inr ⟨_, flX7_92⟩⟩
theorem fX8_12 : j_fl RX8 12 8 0 (tyX8 0) true := ⟨RX8, TX8, 4, tyX8, rfl, by decide, by decide, rfl, uw8, tyX8_ok, nmX8, tyX8_ok 0 (by decide), rfl, Or.inl flX8_12⟩
theorem fX8_21 : j_fl RX8 21 8 1 (tyX8 1) true := ⟨RX8, TX8, 4, tyX8, rfl, by decide, by decide, rfl, uw8, tyX8_ok, nmX8, tyX8_ok 1 (by decide), rfl, Or.inl flX8_21⟩
theorem fX8_25 : j_fl RX8 25 8 2 (tyX8 2) true := ⟨RX8, TX8, 4, tyX8, rfl, by decide, by decide, rfl, uw8, tyX8_ok, nmX8, tyX8_ok 2 (by decide), rfl, Or.inl flX8_25⟩
theorem fX8_29 : j_fl RX8 29 8 3 (tyX8 3) true := ⟨RX8, TX8, 4, tyX8, rfl, by decide, by decide, rfl, uw8, tyX8_ok, nmX8, tyX8_ok 3 (by decide), rfl, Or.inl flX8_29⟩
theorem fX8_40 : j_fl RX8 40 4 5 (tyX4 5) false := ⟨RX4, TX4, 8, tyX4, rfl, by decide, by decide, rfl, uw4, tyX4_ok, nmX4, tyX4_ok 5 (by decide), rfl, Or.inr ⟨_, flX8_40⟩⟩
theorem fX8_44 : j_fl RX8 44 4 2 (tyX4 2) true := ⟨RX4, TX4, 8, tyX4, rfl, by decide, by decide, rfl, uw4, tyX4_ok, nmX4, tyX4_ok 2 (by decide), rfl, Or.inr ⟨_, flX8_44⟩⟩
theorem fX8_48 : j_fl RX8 48 3 2 (tyX3 2) false := ⟨RX3, TX3, 7, tyX3, rfl, by decide, by decide, rfl, uw3, tyX3_ok, nmX3, tyX3_ok 2 (by decide), rfl, Or.inr ⟨_, flX8_48⟩⟩
theorem fX8_57 : j_fl RX8 57 4 0 (tyX4 0) true := ⟨RX4, TX4, 8, tyX4, rfl, by decide, by decide, rfl, uw4, tyX4_ok, nmX4, tyX4_ok 0 (by decide), rfl, Or.inr ⟨_, flX8_57⟩⟩
theorem fX8_63 : j_fl RX8 63 4 4 (tyX4 4) false := ⟨RX4, TX4, 8, tyX4, rfl, by decide, by decide, rfl, uw4, tyX4_ok, nmX4, tyX4_ok 4 (by decide), rfl, Or.inr ⟨_, flX8_63⟩⟩
theorem fX8_70 : j_fl RX8 70 2 2 (tyX2 2) false := ⟨RX2, TX2, 4, tyX2, rfl, by decide, by decide, rfl, uw2, tyX2_ok, nmX2, tyX2_ok 2 (by decide), rfl, Or.inr ⟨_, flX8_70⟩⟩
theorem fX8_77 : j_fl RX8 77 3 1 (tyX3 1) false := ⟨RX3, TX3, 7, tyX3, rfl, by decide, by decide, rfl, uw3, tyX3_ok, nmX3, tyX3_ok 1 (by decide), rfl, Or.inr ⟨_, flX8_77⟩⟩
theorem fX8_80 : j_fl RX8 80 2 0 (tyX2 0) true := ⟨RX2, TX2, 4, tyX2, rfl, by decide, by decide, rfl, uw2, tyX2_ok, nmX2, tyX2_ok 0 (by decide), rfl, Or.inr ⟨_, flX8_80⟩⟩
theorem fX8_83 : j_fl RX8 83 3 3 (tyX3 3) false := ⟨RX3, TX3, 7, tyX3, rfl, by decide, by decide, rfl, uw3, tyX3_ok, nmX3, tyX3_ok 3 (by decide), rfl, Or.inr ⟨_, flX8_83⟩⟩
theorem fX9_12 : j_fl RX9 12 9 0 (tyX9 0) true := ⟨RX9, TX9, 12, tyX9, rfl, by decide, by decide, rfl, uw9, tyX9_ok, nmX9, tyX9_ok 0 (by decide), rfl, Or.inl flX9_12⟩
theorem fX9_16 : j_fl RX9 16 9 1 (tyX9 1) true := ⟨RX9, TX9, 12, tyX9, rfl, by decide, by decide, rfl, uw9, tyX9_ok, nmX9, tyX9_ok 1 (by decide), rfl, Or.inl flX9_16⟩
theorem fX9_19 : j_fl RX9 19 9 2 (tyX9 2) true := ⟨RX9, TX9, 12, tyX9, rfl, by decide, by decide, rfl, uw9, tyX9_ok, nmX9, tyX9_ok 2 (by decide), rfl, Or.inl flX9_19⟩
theorem fX9_25 : j_fl RX9 25 9 4 (tyX9 4) true := ⟨RX9, TX9, 12, tyX9, rfl, by decide, by decide, rfl, uw9, tyX9_ok, nmX9, tyX9_ok 4 (by decide), rfl, Or.inl flX9_25⟩
theorem fX9_32 : j_fl RX9 32 9 5 (tyX9 5) true := ⟨RX9, TX9, 12, tyX9, rfl, by decide, by decide, rfl, uw9, tyX9_ok, nmX9, tyX9_ok 5 (by decide), rfl, Or.inl flX9_32⟩
theorem fX9_39 : j_fl RX9 39 9 6 (tyX9 6) true := ⟨RX9, TX9, 12, tyX9, rfl, by decide, by decide, rfl, uw9, tyX9_ok, nmX9, tyX9_ok 6 (by decide), rfl, Or.inl flX9_39⟩
theorem fX9_46 : j_fl RX9 46 9 7 (tyX9 7) true := ⟨RX9, TX9, 12, tyX9, rfl, by decide, by decide, rfl, uw9, tyX9_ok, nmX9, tyX9_ok 7 (by decide), rfl, Or.inl flX9_46⟩
theorem fX9_53 : j_fl RX9 53 9 8 (tyX9 8) true := ⟨RX9, TX9, 12, tyX9, rfl, by decide, by decide, rfl, uw9, tyX9_ok, nmX9, tyX9_ok 8 (by decide), rfl, Or.inl flX9_53⟩
theorem fX9_60 : j_fl RX9 60 9 9 (tyX9 9) true := ⟨RX9, TX9, 12, tyX9, rfl, by decide, by decide, rfl, uw9, tyX9_ok, nmX9, tyX9_ok 9 (by decide), rfl, Or.inl flX9_60⟩
theorem fX9_66 : j_fl RX9 66 9 10 (tyX9 10) true := ⟨RX9, TX9, 12, tyX9, rfl, by decide, by decide, rfl, uw9, tyX9_ok, nmX9, tyX9_ok 10 (by decide), rfl, Or.inl flX9_66⟩
theorem fX9_70 : j_fl RX9 70 9 11 (tyX9 11) true := ⟨RX9, TX9, 12, tyX9, rfl, by decide, by decide, rfl, uw9, tyX9_ok, nmX9, tyX9_ok 11 (by decide), rfl, Or.inl flX9_70⟩
theorem fX9_94 : j_fl RX9 94 5 2 (tyX5 2) false := ⟨RX5, TX5, 3, tyX5, rfl, by decide, by decide, rfl, uw5, tyX5_ok, nmX5, tyX5_ok 2 (by decide), rfl, Or.inr ⟨_, flX9_94⟩⟩
theorem fX9_105 : j_fl RX9 105 5 1 (tyX5 1) false := ⟨RX5, TX5, 3, tyX5, rfl, by decide, by decide, rfl, uw5, tyX5_ok, nmX5, tyX5_ok 1 (by decide), rfl, Or.inr ⟨_, flX9_105⟩⟩
theorem fX9_112 : j_fl RX9 112 5 0 (tyX5 0) true := ⟨RX5, TX5, 3, tyX5, rfl, by decide, by decide, rfl, uw5, tyX5_ok, nmX5, tyX5_ok 0 (by decide), rfl, Or.inr ⟨_, flX9_112⟩⟩
theorem fX9_135 : j_fl RX9 135 4 2 (tyX4 2) true := ⟨RX4, TX4, 8, tyX4, rfl, by decide, by decide, rfl, uw4, tyX4_ok, nmX4, tyX4_ok 2 (by decide), rfl, Or.inr ⟨_, flX9_135⟩⟩
theorem fX9_139 : j_fl RX9 139 3 1 (tyX3 1) false := ⟨RX3, TX3, 7, tyX3, rfl, by decide, by decide, rfl, uw3, tyX3_ok, nmX3, tyX3_ok 1 (by decide), rfl, Or.inr ⟨_, flX9_139⟩⟩
theorem fX9_147 : j_fl RX9 147 3 3 (tyX3 3) false := ⟨RX3, TX3, 7, tyX3, rfl, by decide, by decide, rfl, uw3, tyX3_ok, nmX3, tyX3_ok 3 (by decide), rfl, Or.inr ⟨_, flX9_147⟩⟩
theorem fX9_150 : j_fl RX9 150 4 4 (tyX4 4) false := ⟨RX4, TX4, 8, tyX4, rfl, by decide, by decide, rfl, uw4, tyX4_ok, nmX4, tyX4_ok 4 (by decide), rfl, Or.inr ⟨_, flX9_150⟩⟩
theorem fX9_163 : j_fl RX9 163 4 0 (tyX4 0) true := ⟨RX4, TX4, 8, tyX4, rfl, by decide, by decide, rfl, uw4, tyX4_ok, nmX4, tyX4_ok 0 (by decide), rfl, Or.inr ⟨_, flX9_163⟩⟩
theorem fX9_181 : j_fl RX9 181 3 4 (tyX3 4) false := ⟨RX3, TX3, 7, tyX3, rfl, by decide, by decide, rfl, uw3, tyX3_ok, nmX3, tyX3_ok 4 (by decide), rfl, Or.inr ⟨_, flX9_181⟩⟩
theorem fX9_198 : j_fl RX9 198 3 5 (tyX3 5) false := ⟨RX3, TX3, 7, tyX3, rfl, by decide, by decide, rfl, uw3, tyX3_ok, nmX3, tyX3_ok 5 (by decide), rfl, Or.inr ⟨_, flX9_198⟩⟩
theorem fX9_204 : j_fl RX9 204 3 6 (tyX3 6) false := ⟨RX3, TX3, 7, tyX3, rfl, by decide, by decide, rfl, uw3, tyX3_ok, nmX3, tyX3_ok 6 (by decide), rfl, Or.inr ⟨_, flX9_204⟩⟩
theorem fX9_209 : j_fl RX9 209 7 1 (tyX7 1) false := ⟨RX7, TX7, 4, tyX7, rfl, by decide, by decide, rfl, uw7, tyX7_ok, nmX7, tyX7_ok 1 (by decide), rfl, Or.inr ⟨_, flX9_209⟩⟩
theorem fX9_221 : j_fl RX9 221 7 3 (tyX7 3) false := ⟨RX7, TX7, 4, tyX7, rfl, by decide, by decide, rfl, uw7, tyX7_ok, nmX7, tyX7_ok 3 (by decide), rfl, Or.inr ⟨_, flX9_221⟩⟩
theorem fX9_224 : j_fl RX9 224 3 2 (tyX3 2) false := ⟨RX3, TX3, 7, tyX3, rfl, by decide, by decide, rfl, uw3, tyX3_ok, nmX3, tyX3_ok 2 (by decide), rfl, Or.inr ⟨_, flX9_224⟩⟩
theorem fX9_230 : j_fl RX9 230 3 0 (tyX3 0) true := ⟨RX3, TX3, 7, tyX3, rfl, by decide, by decide, rfl, uw3, tyX3_ok, nmX3, tyX3_ok 0 (by decide), rfl, Or.inr ⟨_, flX9_230⟩⟩
theorem fX9_233 : j_fl RX9 233 4 1 (tyX4 1) true := ⟨RX4, TX4, 8, tyX4, rfl, by decide, by decide, rfl, uw4, tyX4_ok, nmX4, tyX4_ok 1 (by decide), rfl, Or.inr ⟨_, flX9_233⟩⟩
theorem fX9_264 : j_fl RX9 264 2 1 (tyX2 1) false := ⟨RX2, TX2, 4, tyX2, rfl, by decide, by decide, rfl, uw2, tyX2_ok, nmX2, tyX2_ok 1 (by decide), rfl, Or.inr ⟨_, flX9_264⟩⟩
theorem fX9_267 : j_fl RX9 267 2 0 (tyX2 0) true := ⟨RX2, TX2, 4, tyX2, rfl, by decide, by decide, rfl, uw2, tyX2_ok, nmX2, tyX2_ok 0 (by decide), rfl, Or.inr ⟨_, flX9_267⟩⟩
theorem fX9_270 : j_fl RX9 270 2 2 (tyX2 2) false := ⟨RX2, TX2, 4, tyX2, rfl, by decide, by decide, rfl, uw2, tyX2_ok, nmX2, tyX2_ok 2 (by decide), rfl, Or.inr ⟨_, flX9_270⟩⟩
theorem fX9_273 : j_fl RX9 273 2 3 (tyX2 3) false := ⟨RX2, TX2, 4, tyX2, rfl, by decide, by decide, rfl, uw2, tyX2_ok, nmX2, tyX2_ok 3 (by decide), rfl, Or.inr ⟨_, flX9_273⟩⟩
theorem fX9_293 : j_fl RX9 293 1 1 (tyX1 1) false := ⟨RX1, TX1, 5, tyX1, rfl, by decide, by decide, rfl, uw1, tyX1_ok, nmX1, tyX1_ok 1 (by decide), rfl, Or.inr ⟨_, flX9_293⟩⟩
theorem fX9_296 : j_fl RX9 296 1 2 (tyX1 2) false := ⟨RX1, TX1, 5, tyX1, rfl, by decide, by decide, rfl, uw1, tyX1_ok, nmX1, tyX1_ok 2 (by decide), rfl, Or.inr ⟨_, flX9_296⟩⟩
theorem fX9_299 : j_fl RX9 299 4 5 (tyX4 5) false := ⟨RX4, TX4, 8, tyX4, rfl, by decide, by decide, rfl, uw4, tyX4_ok, nmX4, tyX4_ok 5 (by decide), rfl, Or.inr ⟨_, flX9_299⟩⟩
theorem fX9_311 : j_fl RX9 311 1 3 (tyX1 3) false := ⟨RX1, TX1, 5, tyX1, rfl, by decide, by decide, rfl, uw1, tyX1_ok, nmX1, tyX1_ok 3 (by decide), rfl, Or.inr ⟨_, flX9_311⟩⟩
theorem fX9_314 : j_fl RX9 314 1 4 (tyX1 4) false := ⟨RX1, TX1, 5, tyX1, rfl, by decide, by decide, rfl, uw1, tyX1_ok, nmX1, tyX1_ok 4 (by decide), rfl, Or.inr ⟨_, flX9_314⟩⟩
theorem fX9_356 : j_fl RX9 356 6 1 (tyX6 1) true := ⟨RX6, TX6, 2, tyX6, rfl, by decide, by decide, rfl, uw6, tyX6_ok, nmX6, tyX6_ok 1 (by decide), rfl, Or.inr ⟨_, flX9_356⟩⟩
theorem fX9_374 : j_fl RX9 374 4 7 (tyX4 7) false := ⟨RX4, TX4, 8, tyX4, rfl, by decide, by decide, rfl, uw4, tyX4_ok, nmX4, tyX4_ok 7 (by decide), rfl, Or.inr ⟨_, flX9_374⟩⟩
theorem fX9_377 : j_fl RX9 377 9 3 (tyX9 3) false := ⟨RX9, TX9, 12, tyX9, rfl, by decide, by decide, rfl, uw9, tyX9_ok, nmX9, tyX9_ok 3 (by decide), rfl, Or.inl flX9_377⟩
theorem fX9_384 : j_fl RX9 384 4 6 (tyX4 6) false := ⟨RX4, TX4, 8, tyX4, rfl, by decide, by decide, rfl, uw4, tyX4_ok, nmX4, tyX4_ok 6 (by decide), rfl, Or.inr ⟨_, flX9_384⟩⟩
theorem kJ0_335 : j_mk RJ0 335 yJ0_coder_7d493 := Or.inl mlJ0_335
theorem kJ0_492 : j_mk RJ0 492 yJ0_isLatin1_aae02 := Or.inl mlJ0_492
theorem kJ0_495 : j_mk RJ0 495 yJ1_charAt_3b067 := Or.inl mlJ0_495
theorem kJ0_498 : j_mk RJ0 498 yJ2_charAt_3b067 := Or.inl mlJ0_498
theorem kJ0_1059 : j_mk RJ0 1059 yJ3_checkIndex_8e157 := Or.inl mlJ0_1059
theorem kJ1_9 : j_mk RJ1 9 yJ0_checkIndex_df160 := Or.inl mlJ1_9
theorem kJ2_48 : j_mk RJ2 48 yJ2_length_9d52b := Or.inl mlJ2_48
theorem kJ2_67 : j_mk RJ2 67 yJ2_checkIndex_2214a := Or.inl mlJ2_67
theorem kJ2_71 : j_mk RJ2 71 yJ2_getChar_3b067 := Or.inl mlJ2_71
theorem kJ2_414 : j_mk RJ2 414 yJ0_checkIndex_df160 := Or.inl mlJ2_414
theorem kJ6_51 : j_mk RJ6 51 yJ6_numberOfLeadingZeros_0f7a4 := Or.inl mlJ6_51
theorem kL_9 : j_mk RL 9 yX9_init := Or.inl mlL_9
theorem kL_12 : j_mk RL 12 yX10_init := Or.inl mlL_12
theorem kL_13 : j_mk RL 13 yX9_row := Or.inl mlL_13
theorem kL_17 : j_mk RL 17 yX10_row := Or.inl mlL_17
theorem kL_20 : j_mk RL 20 yX9_set := Or.inl mlL_20
theorem kL_24 : j_mk RL 24 yX10_set := Or.inl mlL_24
theorem kL_25 : j_mk RL 25 yX9_copy := Or.inl mlL_25
theorem kL_29 : j_mk RL 29 yX10_copy := Or.inl mlL_29
theorem kL_30 : j_mk RL 30 yX9_element := Or.inl mlL_30
theorem kL_34 : j_mk RL 34 yX10_element := Or.inl mlL_34
theorem kL_35 : j_mk RL 35 yX9_holds := Or.inl mlL_35
theorem kL_39 : j_mk RL 39 yX10_holds := Or.inl mlL_39
theorem kL_40 : j_mk RL 40 yX9_show := Or.inl mlL_40
theorem kL_44 : j_mk RL 44 yX10_show := Or.inl mlL_44
theorem kL_45 : j_mk RL 45 yX9_says := Or.inl mlL_45
theorem kL_48 : j_mk RL 48 yX10_says := Or.inl mlL_48
theorem kL_49 : j_mk RL 49 yX9_place := Or.inl mlL_49
theorem kL_52 : j_mk RL 52 yX10_place := Or.inl mlL_52
theorem kL_53 : j_mk RL 53 yX9_looker := Or.inl mlL_53
theorem kL_56 : j_mk RL 56 yX10_looker := Or.inl mlL_56
theorem kL_57 : j_mk RL 57 yX9_likes := Or.inl mlL_57
theorem kL_61 : j_mk RL 61 yX10_likes := Or.inl mlL_61
theorem kL_62 : j_mk RL 62 yX9_tell := Or.inl mlL_62
theorem kL_65 : j_mk RL 65 yX10_tell := Or.inl mlL_65
theorem kL_66 : j_mk RL 66 yX9_feed := Or.inl mlL_66
theorem kL_69 : j_mk RL 69 yX10_feed := Or.inl mlL_69
theorem kL_70 : j_mk RL 70 yX9_wipe := Or.inl mlL_70
theorem kL_74 : j_mk RL 74 yX10_wipe := Or.inl mlL_74
theorem kL_75 : j_mk RL 75 yX9_window := Or.inl mlL_75
theorem kL_78 : j_mk RL 78 yX10_window := Or.inl mlL_78
theorem kL_79 : j_mk RL 79 yX9_sortAt := Or.inl mlL_79
theorem kL_82 : j_mk RL 82 yX10_sortAt := Or.inl mlL_82
theorem kL_83 : j_mk RL 83 yX9_lookerOf := Or.inl mlL_83
theorem kL_86 : j_mk RL 86 yX10_lookerOf := Or.inl mlL_86
theorem kL_87 : j_mk RL 87 yX9_left := Or.inl mlL_87
theorem kL_90 : j_mk RL 90 yX10_left := Or.inl mlL_90
theorem kL_91 : j_mk RL 91 yX9_taken := Or.inl mlL_91
theorem kL_94 : j_mk RL 94 yX10_taken := Or.inl mlL_94
theorem kL_95 : j_mk RL 95 yX9_glad := Or.inl mlL_95
theorem kL_98 : j_mk RL 98 yX10_glad := Or.inl mlL_98
theorem kL_99 : j_mk RL 99 yX9_order := Or.inl mlL_99
theorem kL_102 : j_mk RL 102 yX10_order := Or.inl mlL_102
theorem kL_103 : j_mk RL 103 yX9_away := Or.inl mlL_103
theorem kL_106 : j_mk RL 106 yX10_away := Or.inl mlL_106
theorem kL_107 : j_mk RL 107 yX9_crowd := Or.inl mlL_107
theorem kL_110 : j_mk RL 110 yX10_crowd := Or.inl mlL_110
theorem kL_111 : j_mk RL 111 yX9_setOut := Or.inl mlL_111
theorem kL_114 : j_mk RL 114 yX10_setOut := Or.inl mlL_114
theorem kL_115 : j_mk RL 115 yX9_who := Or.inl mlL_115
theorem kL_118 : j_mk RL 118 yX10_who := Or.inl mlL_118
theorem kL_119 : j_mk RL 119 yX9_kinds := Or.inl mlL_119
theorem kL_123 : j_mk RL 123 yX10_kinds := Or.inl mlL_123
theorem kL_124 : j_mk RL 124 yX9_odds := Or.inl mlL_124
theorem kL_127 : j_mk RL 127 yX10_odds := Or.inl mlL_127
theorem kL_128 : j_mk RL 128 yX9_likely := Or.inl mlL_128
theorem kL_131 : j_mk RL 131 yX10_likely := Or.inl mlL_131
theorem kL_132 : j_mk RL 132 yX9_gladOdds := Or.inl mlL_132
theorem kL_135 : j_mk RL 135 yX10_gladOdds := Or.inl mlL_135
theorem kL_136 : j_mk RL 136 yX9_meanLeft := Or.inl mlL_136
theorem kL_139 : j_mk RL 139 yX10_meanLeft := Or.inl mlL_139
theorem kL_140 : j_mk RL 140 yX9_sorts := Or.inl mlL_140
theorem kL_143 : j_mk RL 143 yX10_sorts := Or.inl mlL_143
theorem kL_144 : j_mk RL 144 yX9_rare := Or.inl mlL_144
theorem kL_147 : j_mk RL 147 yX10_rare := Or.inl mlL_147
theorem kL_148 : j_mk RL 148 yX9_first := Or.inl mlL_148
theorem kL_151 : j_mk RL 151 yX10_first := Or.inl mlL_151
theorem kL_152 : j_mk RL 152 yX9_places := Or.inl mlL_152
theorem kL_155 : j_mk RL 155 yX10_places := Or.inl mlL_155
theorem kL_156 : j_mk RL 156 yX9_gladOnes := Or.inl mlL_156
theorem kL_159 : j_mk RL 159 yX10_gladOnes := Or.inl mlL_159
theorem kL_160 : j_mk RL 160 yX9_empty := Or.inl mlL_160
theorem kL_163 : j_mk RL 163 yX10_empty := Or.inl mlL_163
theorem kL_164 : j_mk RL 164 yX9_without := Or.inl mlL_164
theorem kL_167 : j_mk RL 167 yX10_without := Or.inl mlL_167
theorem kL_168 : j_mk RL 168 yX9_exchanged := Or.inl mlL_168
theorem kL_171 : j_mk RL 171 yX10_exchanged := Or.inl mlL_171
theorem kL_172 : j_mk RL 172 yX9_bestPair := Or.inl mlL_172
theorem kL_175 : j_mk RL 175 yX10_bestPair := Or.inl mlL_175
theorem kL_176 : j_mk RL 176 yX9_oldest := Or.inl mlL_176
theorem kL_179 : j_mk RL 179 yX10_oldest := Or.inl mlL_179
theorem kL_180 : j_mk RL 180 yX9_twice := Or.inl mlL_180
theorem kL_183 : j_mk RL 183 yX10_twice := Or.inl mlL_183
theorem kL_184 : j_mk RL 184 yX9_unlike := Or.inl mlL_184
theorem kL_187 : j_mk RL 187 yX10_unlike := Or.inl mlL_187
theorem kL_188 : j_mk RL 188 yX9_next := Or.inl mlL_188
theorem kL_191 : j_mk RL 191 yX10_next_ := Or.inl mlL_191
theorem kL_192 : j_mk RL 192 yX9_swapped := Or.inl mlL_192
theorem kL_195 : j_mk RL 195 yX10_swapped := Or.inl mlL_195
theorem kL_196 : j_mk RL 196 yX9_judge := Or.inl mlL_196
theorem kL_199 : j_mk RL 199 yX10_judge := Or.inl mlL_199
theorem kL_200 : j_mk RL 200 yX9_evening := Or.inl mlL_200
theorem kL_203 : j_mk RL 203 yX10_evening := Or.inl mlL_203
theorem kL_204 : j_mk RL 204 yX9_swap := Or.inl mlL_204
theorem kL_207 : j_mk RL 207 yX10_swap := Or.inl mlL_207
theorem kL_208 : j_mk RL 208 yX9_christmases := Or.inl mlL_208
theorem kL_211 : j_mk RL 211 yX10_christmases := Or.inl mlL_211
theorem kL_212 : j_mk RL 212 yX9_seed := Or.inl mlL_212
theorem kL_215 : j_mk RL 215 yX10_seed := Or.inl mlL_215
theorem kL_216 : j_mk RL 216 yX9_image := Or.inl mlL_216
theorem kL_219 : j_mk RL 219 yX10_image := Or.inl mlL_219
theorem kL_220 : j_mk RL 220 yX9_back := Or.inl mlL_220
theorem kL_223 : j_mk RL 223 yX10_back := Or.inl mlL_223
theorem kL_224 : j_mk RL 224 yX9_status := Or.inl mlL_224
theorem kL_227 : j_mk RL 227 yX10_status := Or.inl mlL_227
theorem kX0_11 : j_mk RX0 11 yX2_init := Or.inr ⟨_, mlX0_11⟩
theorem kX0_35 : j_mk RX0 35 yX4_everybody := Or.inr ⟨_, mlX0_35⟩
theorem kX0_42 : j_mk RX0 42 yX2_run := Or.inr ⟨_, mlX0_42⟩
theorem kX0_49 : j_mk RX0 49 yX0_waysOf := Or.inl mlX0_49
theorem kX0_55 : j_mk RX0 55 yX0_share := Or.inl mlX0_55
theorem kX0_62 : j_mk RX0 62 yJ6_bitCount_0f7a4 := Or.inl mlX0_62
theorem kX1_11 : j_mk RX1 11 yX2_init := Or.inr ⟨_, mlX1_11⟩
theorem kX1_18 : j_mk RX1 18 yX4_everybody := Or.inr ⟨_, mlX1_18⟩
theorem kX1_31 : j_mk RX1 31 yJ6_bitCount_0f7a4 := Or.inl mlX1_31
theorem kX1_40 : j_mk RX1 40 yX2_run := Or.inr ⟨_, mlX1_40⟩
theorem kX10_85 : j_mk RX10 85 yX10_within := Or.inl mlX10_85
theorem kX10_92 : j_mk RX10 92 yX10_isShelf := Or.inl mlX10_92
theorem kX10_96 : j_mk RX10 96 yX10_no := Or.inl mlX10_96
theorem kX10_100 : j_mk RX10 100 yX10_isRow := Or.inl mlX10_100
theorem kX10_103 : j_mk RX10 103 yX10_noRow := Or.inl mlX10_103
theorem kX10_106 : j_mk RX10 106 yX10_kept := Or.inl mlX10_106
theorem kX10_110 : j_mk RX10 110 yX10_isLooker := Or.inl mlX10_110
theorem kX10_113 : j_mk RX10 113 yX10_isUnder := Or.inl mlX10_113
theorem kX10_117 : j_mk RX10 117 yX10_runs := Or.inl mlX10_117
theorem kX10_121 : j_mk RX10 121 yX10_isPlace := Or.inl mlX10_121
theorem kX10_124 : j_mk RX10 124 yX10_isSort := Or.inl mlX10_124
theorem kX10_127 : j_mk RX10 127 yX10_newLooker := Or.inl mlX10_127
theorem kX10_143 : j_mk RX10 143 yX10_isLetter := Or.inl mlX10_143
theorem kX10_146 : j_mk RX10 146 yX10_isDigit := Or.inl mlX10_146
theorem kX10_152 : j_mk RX10 152 yJ0_length_8abf5 := Or.inl mlX10_152
theorem kX10_158 : j_mk RX10 158 yJ0_charAt_5068e := Or.inl mlX10_158
theorem kX10_162 : j_mk RX10 162 yX10_next := Or.inl mlX10_162
theorem kX10_167 : j_mk RX10 167 yX10_isWord := Or.inl mlX10_167
theorem kX10_171 : j_mk RX10 171 yX10_number := Or.inl mlX10_171
theorem kX10_183 : j_mk RX10 183 yX10_keep := Or.inl mlX10_183
theorem kX10_187 : j_mk RX10 187 yX10_statement := Or.inl mlX10_187
theorem kX10_191 : j_mk RX10 191 yX10_again := Or.inl mlX10_191
theorem kX10_194 : j_mk RX10 194 yX10_in := Or.inl mlX10_194
theorem kX10_197 : j_mk RX10 197 yX10_firstWith := Or.inl mlX10_197
theorem kX10_200 : j_mk RX10 200 yX10_doesLike := Or.inl mlX10_200
theorem kX10_203 : j_mk RX10 203 yX10_manyOf := Or.inl mlX10_203
theorem kX10_206 : j_mk RX10 206 yX10_lastLiked := Or.inl mlX10_206
theorem kX10_209 : j_mk RX10 209 yX10_takes := Or.inl mlX10_209
theorem kX10_213 : j_mk RX10 213 yX10_look := Or.inl mlX10_213
theorem kX10_216 : j_mk RX10 216 yX10_shyest := Or.inl mlX10_216
theorem kX10_222 : j_mk RX10 222 yX10_orders := Or.inl mlX10_222
theorem kX10_225 : j_mk RX10 225 yX10_begins := Or.inl mlX10_225
theorem kX10_228 : j_mk RX10 228 yX10_lookerGoes := Or.inl mlX10_228
theorem kX10_231 : j_mk RX10 231 yX10_isGlad := Or.inl mlX10_231
theorem kX10_234 : j_mk RX10 234 yX10_isSet := Or.inl mlX10_234
theorem kX10_237 : j_mk RX10 237 yX10_leftThen := Or.inl mlX10_237
theorem kX10_240 : j_mk RX10 240 yX10_gladOf := Or.inl mlX10_240
theorem kX10_243 : j_mk RX10 243 yJ6_bitCount_0f7a4 := Or.inl mlX10_243
theorem kX10_248 : j_mk RX10 248 yX10_putsOut := Or.inl mlX10_248
theorem kX10_252 : j_mk RX10 252 yX10_arePlaces := Or.inl mlX10_252
theorem kX10_257 : j_mk RX10 257 yX10_waysOf := Or.inl mlX10_257
theorem kX10_263 : j_mk RX10 263 yX10_allWays := Or.inl mlX10_263
theorem kX10_269 : j_mk RX10 269 yX10_exchanges := Or.inl mlX10_269
theorem kX10_272 : j_mk RX10 272 yX10_inWindow := Or.inl mlX10_272
theorem kX10_275 : j_mk RX10 275 yX10_rank := Or.inl mlX10_275
theorem kX10_278 : j_mk RX10 278 yX10_bringer := Or.inl mlX10_278
theorem kX10_281 : j_mk RX10 281 yX10_wishOf := Or.inl mlX10_281
theorem kX10_284 : j_mk RX10 284 yX10_isRing := Or.inl mlX10_284
theorem kX10_287 : j_mk RX10 287 yX10_swaps := Or.inl mlX10_287
theorem kX10_290 : j_mk RX10 290 yX10_others := Or.inl mlX10_290
theorem kX10_293 : j_mk RX10 293 yX10_toldAt := Or.inl mlX10_293
theorem kX10_296 : j_mk RX10 296 yX10_wrong := Or.inl mlX10_296
theorem kX10_299 : j_mk RX10 299 yJ9_min_7cf53 := Or.inl mlX10_299
theorem kX10_307 : j_mk RX10 307 yX10_goes := Or.inl mlX10_307
theorem kX10_310 : j_mk RX10 310 yJ9_max_7cf53 := Or.inl mlX10_310
theorem kX10_314 : j_mk RX10 314 yX10_draw := Or.inl mlX10_314
theorem kX2_37 : j_mk RX2 37 yX4_takes := Or.inr ⟨_, mlX2_37⟩
theorem kX2_52 : j_mk RX2 52 yX2_run := Or.inl mlX2_52
theorem kX2_56 : j_mk RX2 56 yX2_handOver := Or.inl mlX2_56
theorem kX2_60 : j_mk RX2 60 yX4_put := Or.inr ⟨_, mlX2_60⟩
theorem kX2_67 : j_mk RX2 67 yJ6_bitCount_0f7a4 := Or.inl mlX2_67
theorem kX2_73 : j_mk RX2 73 yX4_firstTaken := Or.inr ⟨_, mlX2_73⟩
theorem kX2_79 : j_mk RX2 79 yX3_gain := Or.inr ⟨_, mlX2_79⟩
theorem kX3_34 : j_mk RX3 34 yJ7_fill_53178 := Or.inl mlX3_34
theorem kX3_46 : j_mk RX3 46 yX9_isSort := Or.inr ⟨_, mlX3_46⟩
theorem kX3_50 : j_mk RX3 50 yJ9_min_7cf53 := Or.inl mlX3_50
theorem kX3_56 : j_mk RX3 56 yJ9_max_7cf53 := Or.inl mlX3_56
theorem kX4_31 : j_mk RX4 31 yJ7_fill_53178 := Or.inl mlX4_31
theorem kX4_37 : j_mk RX4 37 yX3_init := Or.inr ⟨_, mlX4_37⟩
theorem kX4_47 : j_mk RX4 47 yX3_become := Or.inr ⟨_, mlX4_47⟩
theorem kX4_57 : j_mk RX4 57 yX9_isSort := Or.inr ⟨_, mlX4_57⟩
theorem kX4_61 : j_mk RX4 61 yX3_begin := Or.inr ⟨_, mlX4_61⟩
theorem kX4_65 : j_mk RX4 65 yX4_orderByAge := Or.inl mlX4_65
theorem kX4_74 : j_mk RX4 74 yX3_wanted := Or.inr ⟨_, mlX4_74⟩
theorem kX4_78 : j_mk RX4 78 yX4_placesWithAny := Or.inl mlX4_78
theorem kX4_85 : j_mk RX4 85 yX4_takesTwice := Or.inl mlX4_85
theorem kX4_89 : j_mk RX4 89 yJ6_highestOneBit_0f7a4 := Or.inl mlX4_89
theorem kX4_94 : j_mk RX4 94 yX4_isOnly := Or.inl mlX4_94
theorem kX4_98 : j_mk RX4 98 yX4_placesWithMost := Or.inl mlX4_98
theorem kX4_101 : j_mk RX4 101 yJ6_lowestOneBit_0f7a4 := Or.inl mlX4_101
theorem kX4_104 : j_mk RX4 104 yJ6_bitCount_0f7a4 := Or.inl mlX4_104
theorem kX4_107 : j_mk RX4 107 yJ6_numberOfTrailingZeros_0f7a4 := Or.inl mlX4_107
theorem kX4_110 : j_mk RX4 110 yX3_countHad := Or.inr ⟨_, mlX4_110⟩
theorem kX4_113 : j_mk RX4 113 yX4_measure := Or.inl mlX4_113
theorem kX4_120 : j_mk RX4 120 yX4_toldLookers := Or.inl mlX4_120
theorem kX4_124 : j_mk RX4 124 yX4_inOrder := Or.inl mlX4_124
theorem kX4_127 : j_mk RX4 127 yX5_elementAt := Or.inr ⟨_, mlX4_127⟩
theorem kX4_133 : j_mk RX4 133 yX4_takes := Or.inl mlX4_133
theorem kX4_136 : j_mk RX4 136 yX4_firstTaken := Or.inl mlX4_136
theorem kX4_140 : j_mk RX4 140 yX4_draw := Or.inl mlX4_140
theorem kX4_146 : j_mk RX4 146 yX4_put := Or.inl mlX4_146
theorem kX5_22 : j_mk RX5 22 yJ7_fill_d0a16 := Or.inl mlX5_22
theorem kX5_28 : j_mk RX5 28 yX5_isRow := Or.inl mlX5_28
theorem kX5_32 : j_mk RX5 32 yX5_lowestBits := Or.inl mlX5_32
theorem kX6_18 : j_mk RX6 18 yJ7_fill_53178 := Or.inl mlX6_18
theorem kX6_24 : j_mk RX6 24 yX4_bringers := Or.inr ⟨_, mlX6_24⟩
theorem kX6_30 : j_mk RX6 30 yX6_settleRings := Or.inl mlX6_30
theorem kX6_38 : j_mk RX6 38 yX6_wishOf := Or.inl mlX6_38
theorem kX6_42 : j_mk RX6 42 yX6_isOnRing := Or.inl mlX6_42
theorem kX6_58 : j_mk RX6 58 yX6_firstWhoBrings := Or.inl mlX6_58
theorem kX6_64 : j_mk RX6 64 yX3_lose := Or.inr ⟨_, mlX6_64⟩
theorem kX6_68 : j_mk RX6 68 yX3_gain := Or.inr ⟨_, mlX6_68⟩
theorem kX7_25 : j_mk RX7 25 yX7_readStatement := Or.inl mlX7_25
theorem kX7_29 : j_mk RX7 29 yX7_readSemicolon := Or.inl mlX7_29
theorem kX7_33 : j_mk RX7 33 yX7_skipBlanks := Or.inl mlX7_33
theorem kX7_36 : j_mk RX7 36 yX7_readWord := Or.inl mlX7_36
theorem kX7_40 : j_mk RX7 40 yX7_readPlace := Or.inl mlX7_40
theorem kX7_43 : j_mk RX7 43 yX7_readClear := Or.inl mlX7_43
theorem kX7_46 : j_mk RX7 46 yX7_readLooker := Or.inl mlX7_46
theorem kX7_50 : j_mk RX7 50 yX7_readLikes := Or.inl mlX7_50
theorem kX7_53 : j_mk RX7 53 yX7_readComes := Or.inl mlX7_53
theorem kX7_56 : j_mk RX7 56 yX7_readShine := Or.inl mlX7_56
theorem kX7_59 : j_mk RX7 59 yX7_readNumber := Or.inl mlX7_59
theorem kX7_63 : j_mk RX7 63 yX4_put := Or.inr ⟨_, mlX7_63⟩
theorem kX7_69 : j_mk RX7 69 yX4_isFull := Or.inr ⟨_, mlX7_69⟩
theorem kX7_72 : j_mk RX7 72 yX4_add := Or.inr ⟨_, mlX7_72⟩
theorem kX7_83 : j_mk RX7 83 yX3_like := Or.inr ⟨_, mlX7_83⟩
theorem kX7_95 : j_mk RX7 95 yX7_isDigit := Or.inl mlX7_95
theorem kX7_99 : j_mk RX7 99 yX7_spellingOf := Or.inl mlX7_99
theorem kX7_103 : j_mk RX7 103 yX7_isSpelled := Or.inl mlX7_103
theorem kX7_107 : j_mk RX7 107 yJ0_length_8abf5 := Or.inl mlX7_107
theorem kX7_112 : j_mk RX7 112 yJ0_charAt_5068e := Or.inl mlX7_112
theorem kX8_11 : j_mk RX8 11 yX4_init := Or.inr ⟨_, mlX8_11⟩
theorem kX8_20 : j_mk RX8 20 yX2_init := Or.inr ⟨_, mlX8_20⟩
theorem kX8_32 : j_mk RX8 32 yX4_become := Or.inr ⟨_, mlX8_32⟩
theorem kX8_36 : j_mk RX8 36 yX8_findEmptyPlaces := Or.inl mlX8_36
theorem kX8_53 : j_mk RX8 53 yX8_isEnough := Or.inl mlX8_53
theorem kX8_60 : j_mk RX8 60 yX8_putRow := Or.inl mlX8_60
theorem kX8_66 : j_mk RX8 66 yX2_run := Or.inr ⟨_, mlX8_66⟩
theorem kX8_73 : j_mk RX8 73 yX4_put := Or.inr ⟨_, mlX8_73⟩
theorem kX8_86 : j_mk RX8 86 yX4_putAge := Or.inr ⟨_, mlX8_86⟩
theorem kX8_89 : j_mk RX8 89 yX4_everybody := Or.inr ⟨_, mlX8_89⟩
theorem kX8_92 : j_mk RX8 92 yJ6_bitCount_0f7a4 := Or.inl mlX8_92
theorem kX8_98 : j_mk RX8 98 yX8_gladExchanged := Or.inl mlX8_98
theorem kX9_11 : j_mk RX9 11 yX4_init := Or.inr ⟨_, mlX9_11⟩
theorem kX9_24 : j_mk RX9 24 yX2_init := Or.inr ⟨_, mlX9_24⟩
theorem kX9_31 : j_mk RX9 31 yX1_init := Or.inr ⟨_, mlX9_31⟩
theorem kX9_38 : j_mk RX9 38 yX0_init := Or.inr ⟨_, mlX9_38⟩
theorem kX9_45 : j_mk RX9 45 yX8_init := Or.inr ⟨_, mlX9_45⟩
theorem kX9_52 : j_mk RX9 52 yX6_init := Or.inr ⟨_, mlX9_52⟩
theorem kX9_59 : j_mk RX9 59 yX7_init := Or.inr ⟨_, mlX9_59⟩
theorem kX9_74 : j_mk RX9 74 yX5_init := Or.inr ⟨_, mlX9_74⟩
theorem kX9_75 : j_mk RX9 75 yX9_isShelf := Or.inl mlX9_75
theorem kX9_79 : j_mk RX9 79 yX9_refuse := Or.inl mlX9_79
theorem kX9_83 : j_mk RX9 83 yX5_holdRow := Or.inr ⟨_, mlX9_83⟩
theorem kX9_87 : j_mk RX9 87 yX5_isRow := Or.inr ⟨_, mlX9_87⟩
theorem kX9_91 : j_mk RX9 91 yX5_isNothing := Or.inr ⟨_, mlX9_91⟩
theorem kX9_98 : j_mk RX9 98 yX5_put := Or.inr ⟨_, mlX9_98⟩
theorem kX9_102 : j_mk RX9 102 yX5_isLooker := Or.inr ⟨_, mlX9_102⟩
theorem kX9_108 : j_mk RX9 108 yX5_hasRun := Or.inr ⟨_, mlX9_108⟩
theorem kX9_122 : j_mk RX9 122 yX5_elementAt := Or.inr ⟨_, mlX9_122⟩
theorem kX9_126 : j_mk RX9 126 yX9_isLooker := Or.inl mlX9_126
theorem kX9_128 : j_mk RX9 128 yX5_holdNothing := Or.inr ⟨_, mlX9_128⟩
theorem kX9_131 : j_mk RX9 131 yX5_holdLooker := Or.inr ⟨_, mlX9_131⟩
theorem kX9_144 : j_mk RX9 144 yX9_isOfKind := Or.inl mlX9_144
theorem kX9_153 : j_mk RX9 153 yX4_takes := Or.inr ⟨_, mlX9_153⟩
theorem kX9_157 : j_mk RX9 157 yX9_isPlace := Or.inl mlX9_157
theorem kX9_160 : j_mk RX9 160 yX9_isSortOrNone := Or.inl mlX9_160
theorem kX9_166 : j_mk RX9 166 yX4_put := Or.inr ⟨_, mlX9_166⟩
theorem kX9_168 : j_mk RX9 168 yX9_isSort := Or.inl mlX9_168
theorem kX9_171 : j_mk RX9 171 yX9_isAge := Or.inl mlX9_171
theorem kX9_174 : j_mk RX9 174 yX4_isFull := Or.inr ⟨_, mlX9_174⟩
theorem kX9_177 : j_mk RX9 177 yX4_add := Or.inr ⟨_, mlX9_177⟩
theorem kX9_184 : j_mk RX9 184 yX3_like := Or.inr ⟨_, mlX9_184⟩
theorem kX9_188 : j_mk RX9 188 yX9_tellComes := Or.inl mlX9_188
theorem kX9_192 : j_mk RX9 192 yX9_tellAge := Or.inl mlX9_192
theorem kX9_195 : j_mk RX9 195 yX9_tellShine := Or.inl mlX9_195
theorem kX9_201 : j_mk RX9 201 yX4_putAge := Or.inr ⟨_, mlX9_201⟩
theorem kX9_207 : j_mk RX9 207 yX7_add := Or.inr ⟨_, mlX9_207⟩
theorem kX9_210 : j_mk RX9 210 yX7_clear := Or.inr ⟨_, mlX9_210⟩
theorem kX9_213 : j_mk RX9 213 yX4_become := Or.inr ⟨_, mlX9_213⟩
theorem kX9_217 : j_mk RX9 217 yX7_read := Or.inr ⟨_, mlX9_217⟩
theorem kX9_227 : j_mk RX9 227 yX9_isHas := Or.inl mlX9_227
theorem kX9_236 : j_mk RX9 236 yJ6_bitCount_0f7a4 := Or.inl mlX9_236
theorem kX9_241 : j_mk RX9 241 yX4_countWhoLike := Or.inr ⟨_, mlX9_241⟩
theorem kX9_244 : j_mk RX9 244 yX4_countWithA := Or.inr ⟨_, mlX9_244⟩
theorem kX9_247 : j_mk RX9 247 yX4_rarestSort := Or.inr ⟨_, mlX9_247⟩
theorem kX9_251 : j_mk RX9 251 yX4_commonestSort := Or.inr ⟨_, mlX9_251⟩
theorem kX9_254 : j_mk RX9 254 yX4_firstWithMost := Or.inr ⟨_, mlX9_254⟩
theorem kX9_257 : j_mk RX9 257 yX9_isSet := Or.inl mlX9_257
theorem kX9_260 : j_mk RX9 260 yX2_run := Or.inr ⟨_, mlX9_260⟩
theorem kX9_276 : j_mk RX9 276 yX4_inOrder := Or.inr ⟨_, mlX9_276⟩
theorem kX9_279 : j_mk RX9 279 yX4_everybody := Or.inr ⟨_, mlX9_279⟩
theorem kX9_282 : j_mk RX9 282 yX4_countUnlike := Or.inr ⟨_, mlX9_282⟩
theorem kX9_285 : j_mk RX9 285 yX4_wrongPair := Or.inr ⟨_, mlX9_285⟩
theorem kX9_289 : j_mk RX9 289 yX1_findAway := Or.inr ⟨_, mlX9_289⟩
theorem kX9_302 : j_mk RX9 302 yX1_findGladdest := Or.inr ⟨_, mlX9_302⟩
theorem kX9_305 : j_mk RX9 305 yX9_isPlaces := Or.inl mlX9_305
theorem kX9_308 : j_mk RX9 308 yX1_findLeaving := Or.inr ⟨_, mlX9_308⟩
theorem kX9_317 : j_mk RX9 317 yX0_ofLeft := Or.inr ⟨_, mlX9_317⟩
theorem kX9_321 : j_mk RX9 321 yX0_ofGlad := Or.inr ⟨_, mlX9_321⟩
theorem kX9_324 : j_mk RX9 324 yX0_ofManyGlad := Or.inr ⟨_, mlX9_324⟩
theorem kX9_327 : j_mk RX9 327 yX0_meanOfLeft := Or.inr ⟨_, mlX9_327⟩
theorem kX9_330 : j_mk RX9 330 yX8_findSetOut := Or.inr ⟨_, mlX9_330⟩
theorem kX9_333 : j_mk RX9 333 yX8_sortSetOut := Or.inr ⟨_, mlX9_333⟩
theorem kX9_336 : j_mk RX9 336 yX8_kindsTaking := Or.inr ⟨_, mlX9_336⟩
theorem kX9_340 : j_mk RX9 340 yX8_wishesTaking := Or.inr ⟨_, mlX9_340⟩
theorem kX9_343 : j_mk RX9 343 yX8_gladExchanged := Or.inr ⟨_, mlX9_343⟩
theorem kX9_347 : j_mk RX9 347 yX8_bestExchange := Or.inr ⟨_, mlX9_347⟩
theorem kX9_350 : j_mk RX9 350 yX8_greatestGladAge := Or.inr ⟨_, mlX9_350⟩
theorem kX9_353 : j_mk RX9 353 yX6_settle := Or.inr ⟨_, mlX9_353⟩
theorem kX9_359 : j_mk RX9 359 yX6_countOthers := Or.inr ⟨_, mlX9_359⟩
theorem kX9_362 : j_mk RX9 362 yX6_carryOut := Or.inr ⟨_, mlX9_362⟩
theorem kX9_365 : j_mk RX9 365 yX2_runInTruth := Or.inr ⟨_, mlX9_365⟩
theorem kX9_368 : j_mk RX9 368 yX4_drawWhoCome := Or.inr ⟨_, mlX9_368⟩
theorem kX9_371 : j_mk RX9 371 yX4_drawThings := Or.inr ⟨_, mlX9_371⟩
theorem kX9_381 : j_mk RX9 381 yX4_countHad := Or.inr ⟨_, mlX9_381⟩
theorem kX9_387 : j_mk RX9 387 yX4_bringers := Or.inr ⟨_, mlX9_387⟩
theorem kX9_390 : j_mk RX9 390 yX9_countShelvesInUse := Or.inl mlX9_390
theorem kX9_393 : j_mk RX9 393 yX9_refusalsOf := Or.inl mlX9_393
theorem mX9_init : j_my yX9_init cX9_init 2 none 0 := ⟨cd_X9_init, ni_X9, ⟨by decide, by decide⟩, by decide +kernel, by decide⟩
theorem mX4_init : j_my yX4_init cX4_init 2 none 0 := ⟨cd_X4_init, ni_X4, ⟨by decide, by decide⟩, by decide +kernel, by decide⟩
theorem mJ7_fill_53178 : j_my yJ7_fill_53178 cJ7_fill_53178 4 none 2 := ⟨cd_J7_fill_53178, ni_J7, ⟨by decide, by decide⟩, by decide +kernel, by decide⟩
theorem mX3_init : j_my yX3_init cX3_init 1 none 0 := ⟨cd_X3_init, ni_X3, ⟨by decide, by decide⟩, by decide +kernel, by decide⟩
theorem mX2_init : j_my yX2_init cX2_init 1 none 0 := ⟨cd_X2_init, ni_X2, ⟨by decide, by decide⟩, by decide +kernel, by decide⟩
theorem mX1_init : j_my yX1_init cX1_init 1 none 0 := ⟨cd_X1_init, ni_X1, ⟨by decide, by decide⟩, by decide +kernel, by decide⟩
theorem mX0_init : j_my yX0_init cX0_init 1 none 0 := ⟨cd_X0_init, ni_X0, ⟨by decide, by decide⟩, by decide +kernel, by decide⟩
theorem mX8_init : j_my yX8_init cX8_init 1 none 0 := ⟨cd_X8_init, ni_X8, ⟨by decide, by decide⟩, by decide +kernel, by decide⟩
theorem mX6_init : j_my yX6_init cX6_init 1 none 0 := ⟨cd_X6_init, ni_X6, ⟨by decide, by decide⟩, by decide +kernel, by decide⟩
theorem mX7_init : j_my yX7_init cX7_init 1 none 0 := ⟨cd_X7_init, ni_X7, ⟨by decide, by decide⟩, by decide +kernel, by decide⟩
theorem mX5_init : j_my yX5_init cX5_init 1 none 0 := ⟨cd_X5_init, ni_X5, ⟨by decide, by decide⟩, by decide +kernel, by decide⟩
theorem mX9_row : j_my yX9_row cX9_row 4 (some .int) 3 := ⟨cd_X9_row, ni_X9, ⟨by decide, by decide⟩, by decide +kernel, by decide⟩
theorem mX9_isShelf : j_my yX9_isShelf cX9_isShelf 1 (some .boolean) 1 := ⟨cd_X9_isShelf, ni_X9, ⟨by decide, by decide⟩, by decide +kernel, by decide⟩
theorem mX9_refuse : j_my yX9_refuse cX9_refuse 2 (some .int) 1 := ⟨cd_X9_refuse, ni_X9, ⟨by decide, by decide⟩, by decide +kernel, by decide⟩
theorem mX5_holdRow : j_my yX5_holdRow cX5_holdRow 3 none 2 := ⟨cd_X5_holdRow, ni_X5, ⟨by decide, by decide⟩, by decide +kernel, by decide⟩
theorem mJ7_fill_d0a16 : j_my yJ7_fill_d0a16 cJ7_fill_d0a16 5 none 2 := ⟨cd_J7_fill_d0a16, ni_J7, ⟨by decide, by decide⟩, by decide +kernel, by decide⟩
theorem mX9_set : j_my yX9_set cX9_set 6 (some .int) 3 := ⟨cd_X9_set, ni_X9, ⟨by decide, by decide⟩, by decide +kernel, by decide⟩
theorem mX5_isRow : j_my yX5_isRow cX5_isRow 1 (some .boolean) 0 := ⟨cd_X5_isRow, ni_X5, ⟨by decide, by decide⟩, by decide +kernel, by decide⟩
theorem mX5_isNothing : j_my yX5_isNothing cX5_isNothing 1 (some .boolean) 0 := ⟨cd_X5_isNothing, ni_X5, ⟨by decide, by decide⟩, by decide +kernel, by decide⟩
theorem mX5_put : j_my yX5_put cX5_put 4 none 2 := ⟨cd_X5_put, ni_X5, ⟨by decide, by decide⟩, by decide +kernel, by decide⟩
theorem mX5_lowestBits : j_my yX5_lowestBits cX5_lowestBits 3 (some .long) 1 := ⟨cd_X5_lowestBits, ni_X5, ⟨by decide, by decide⟩, by decide +kernel, by decide⟩
theorem mX9_copy : j_my yX9_copy cX9_copy 8 (some .int) 5 := ⟨cd_X9_copy, ni_X9, ⟨by decide, by decide⟩, by decide +kernel, by decide⟩
theorem mX5_isLooker : j_my yX5_isLooker cX5_isLooker 1 (some .boolean) 0 := ⟨cd_X5_isLooker, ni_X5, ⟨by decide, by decide⟩, by decide +kernel, by decide⟩
theorem mX5_hasRun : j_my yX5_hasRun cX5_hasRun 3 (some .boolean) 2 := ⟨cd_X5_hasRun, ni_X5, ⟨by decide, by decide⟩, by decide +kernel, by decide⟩
theorem mX9_element : j_my yX9_element cX9_element 3 (some .long) 2 := ⟨cd_X9_element, ni_X9, ⟨by decide, by decide⟩, by decide +kernel, by decide⟩
theorem mX5_elementAt : j_my yX5_elementAt cX5_elementAt 2 (some .long) 1 := ⟨cd_X5_elementAt, ni_X5, ⟨by decide, by decide⟩, by decide +kernel, by decide⟩
theorem mX9_holds : j_my yX9_holds cX9_holds 2 (some .int) 1 := ⟨cd_X9_holds, ni_X9, ⟨by decide, by decide⟩, by decide +kernel, by decide⟩
theorem mX9_show : j_my yX9_show cX9_show 3 (some .int) 2 := ⟨cd_X9_show, ni_X9, ⟨by decide, by decide⟩, by decide +kernel, by decide⟩
theorem mX9_isLooker : j_my yX9_isLooker cX9_isLooker 2 (some .boolean) 1 := ⟨cd_X9_isLooker, ni_X9, ⟨by decide, by decide⟩, by decide +kernel, by decide⟩
theorem mX5_holdNothing : j_my yX5_holdNothing cX5_holdNothing 1 none 0 := ⟨cd_X5_holdNothing, ni_X5, ⟨by decide, by decide⟩, by decide +kernel, by decide⟩
theorem mX5_holdLooker : j_my yX5_holdLooker cX5_holdLooker 2 none 1 := ⟨cd_X5_holdLooker, ni_X5, ⟨by decide, by decide⟩, by decide +kernel, by decide⟩
theorem mX9_says : j_my yX9_says cX9_says 6 (some .int) 2 := ⟨cd_X9_says, ni_X9, ⟨by decide, by decide⟩, by decide +kernel, by decide⟩
theorem mX9_isOfKind : j_my yX9_isOfKind cX9_isOfKind 2 (some .boolean) 2 := ⟨cd_X9_isOfKind, ni_X9, ⟨by decide, by decide⟩, by decide +kernel, by decide⟩
theorem mX4_takes : j_my yX4_takes cX4_takes 5 (some .int) 2 := ⟨cd_X4_takes, ni_X4, ⟨by decide, by decide⟩, by decide +kernel, by decide⟩
theorem mX3_wanted : j_my yX3_wanted cX3_wanted 1 (some .int) 0 := ⟨cd_X3_wanted, ni_X3, ⟨by decide, by decide⟩, by decide +kernel, by decide⟩
theorem mX4_placesWithAny : j_my yX4_placesWithAny cX4_placesWithAny 4 (some .int) 1 := ⟨cd_X4_placesWithAny, ni_X4, ⟨by decide, by decide⟩, by decide +kernel, by decide⟩
theorem mX4_takesTwice : j_my yX4_takesTwice cX4_takesTwice 4 (some .int) 2 := ⟨cd_X4_takesTwice, ni_X4, ⟨by decide, by decide⟩, by decide +kernel, by decide⟩
theorem mJ6_lowestOneBit_0f7a4 : j_my yJ6_lowestOneBit_0f7a4 cJ6_lowestOneBit_0f7a4 1 (some .int) 1 := ⟨cd_J6_lowestOneBit_0f7a4, ni_J6, ⟨by decide, by decide⟩, by decide +kernel, by decide⟩
theorem mJ6_highestOneBit_0f7a4 : j_my yJ6_highestOneBit_0f7a4 cJ6_highestOneBit_0f7a4 1 (some .int) 1 := ⟨cd_J6_highestOneBit_0f7a4, ni_J6, ⟨by decide, by decide⟩, by decide +kernel, by decide⟩
theorem mJ6_numberOfLeadingZeros_0f7a4 : j_my yJ6_numberOfLeadingZeros_0f7a4 cJ6_numberOfLeadingZeros_0f7a4 2 (some .int) 1 := ⟨cd_J6_numberOfLeadingZeros_0f7a4, ni_J6, ⟨by decide, by decide⟩, by decide +kernel, by decide⟩
theorem mX4_isOnly : j_my yX4_isOnly cX4_isOnly 4 (some .boolean) 2 := ⟨cd_X4_isOnly, ni_X4, ⟨by decide, by decide⟩, by decide +kernel, by decide⟩
theorem mX4_placesWithMost : j_my yX4_placesWithMost cX4_placesWithMost 6 (some .int) 2 := ⟨cd_X4_placesWithMost, ni_X4, ⟨by decide, by decide⟩, by decide +kernel, by decide⟩
theorem mJ6_bitCount_0f7a4 : j_my yJ6_bitCount_0f7a4 cJ6_bitCount_0f7a4 1 (some .int) 1 := ⟨cd_J6_bitCount_0f7a4, ni_J6, ⟨by decide, by decide⟩, by decide +kernel, by decide⟩
theorem mX9_place : j_my yX9_place cX9_place 4 (some .int) 2 := ⟨cd_X9_place, ni_X9, ⟨by decide, by decide⟩, by decide +kernel, by decide⟩
theorem mX9_isPlace : j_my yX9_isPlace cX9_isPlace 1 (some .boolean) 1 := ⟨cd_X9_isPlace, ni_X9, ⟨by decide, by decide⟩, by decide +kernel, by decide⟩
theorem mX9_isSortOrNone : j_my yX9_isSortOrNone cX9_isSortOrNone 1 (some .boolean) 1 := ⟨cd_X9_isSortOrNone, ni_X9, ⟨by decide, by decide⟩, by decide +kernel, by decide⟩
theorem mX9_isSort : j_my yX9_isSort cX9_isSort 1 (some .boolean) 1 := ⟨cd_X9_isSort, ni_X9, ⟨by decide, by decide⟩, by decide +kernel, by decide⟩
theorem mX4_put : j_my yX4_put cX4_put 4 none 2 := ⟨cd_X4_put, ni_X4, ⟨by decide, by decide⟩, by decide +kernel, by decide⟩
theorem mX9_looker : j_my yX9_looker cX9_looker 4 (some .int) 3 := ⟨cd_X9_looker, ni_X9, ⟨by decide, by decide⟩, by decide +kernel, by decide⟩
theorem mX9_isAge : j_my yX9_isAge cX9_isAge 1 (some .boolean) 1 := ⟨cd_X9_isAge, ni_X9, ⟨by decide, by decide⟩, by decide +kernel, by decide⟩
theorem mX4_isFull : j_my yX4_isFull cX4_isFull 1 (some .boolean) 0 := ⟨cd_X4_isFull, ni_X4, ⟨by decide, by decide⟩, by decide +kernel, by decide⟩
theorem mX4_add : j_my yX4_add cX4_add 5 (some .int) 3 := ⟨cd_X4_add, ni_X4, ⟨by decide, by decide⟩, by decide +kernel, by decide⟩
theorem mX3_begin : j_my yX3_begin cX3_begin 4 none 3 := ⟨cd_X3_begin, ni_X3, ⟨by decide, by decide⟩, by decide +kernel, by decide⟩
theorem mX4_orderByAge : j_my yX4_orderByAge cX4_orderByAge 3 none 0 := ⟨cd_X4_orderByAge, ni_X4, ⟨by decide, by decide⟩, by decide +kernel, by decide⟩
theorem mX9_likes : j_my yX9_likes cX9_likes 6 (some .int) 3 := ⟨cd_X9_likes, ni_X9, ⟨by decide, by decide⟩, by decide +kernel, by decide⟩
theorem mX3_like : j_my yX3_like cX3_like 3 none 2 := ⟨cd_X3_like, ni_X3, ⟨by decide, by decide⟩, by decide +kernel, by decide⟩
theorem mX9_tell : j_my yX9_tell cX9_tell 4 (some .int) 3 := ⟨cd_X9_tell, ni_X9, ⟨by decide, by decide⟩, by decide +kernel, by decide⟩
theorem mX9_tellComes : j_my yX9_tellComes cX9_tellComes 5 (some .int) 2 := ⟨cd_X9_tellComes, ni_X9, ⟨by decide, by decide⟩, by decide +kernel, by decide⟩
theorem mX9_tellAge : j_my yX9_tellAge cX9_tellAge 4 (some .int) 2 := ⟨cd_X9_tellAge, ni_X9, ⟨by decide, by decide⟩, by decide +kernel, by decide⟩
theorem mX4_putAge : j_my yX4_putAge cX4_putAge 3 none 2 := ⟨cd_X4_putAge, ni_X4, ⟨by decide, by decide⟩, by decide +kernel, by decide⟩
theorem mX9_tellShine : j_my yX9_tellShine cX9_tellShine 5 (some .int) 2 := ⟨cd_X9_tellShine, ni_X9, ⟨by decide, by decide⟩, by decide +kernel, by decide⟩
theorem mX9_feed : j_my yX9_feed cX9_feed 2 (some .int) 1 := ⟨cd_X9_feed, ni_X9, ⟨by decide, by decide⟩, by decide +kernel, by decide⟩
theorem mX7_add : j_my yX7_add cX7_add 2 (some .boolean) 1 := ⟨cd_X7_add, ni_X7, ⟨by decide, by decide⟩, by decide +kernel, by decide⟩
theorem mX9_wipe : j_my yX9_wipe cX9_wipe 2 (some .int) 0 := ⟨cd_X9_wipe, ni_X9, ⟨by decide, by decide⟩, by decide +kernel, by decide⟩
theorem mX7_clear : j_my yX7_clear cX7_clear 1 none 0 := ⟨cd_X7_clear, ni_X7, ⟨by decide, by decide⟩, by decide +kernel, by decide⟩
theorem mX9_window : j_my yX9_window cX9_window 3 (some .int) 0 := ⟨cd_X9_window, ni_X9, ⟨by decide, by decide⟩, by decide +kernel, by decide⟩
theorem mX4_become : j_my yX4_become cX4_become 3 none 1 := ⟨cd_X4_become, ni_X4, ⟨by decide, by decide⟩, by decide +kernel, by decide⟩
theorem mX3_become : j_my yX3_become cX3_become 2 none 1 := ⟨cd_X3_become, ni_X3, ⟨by decide, by decide⟩, by decide +kernel, by decide⟩
theorem mX7_read : j_my yX7_read cX7_read 4 (some .int) 1 := ⟨cd_X7_read, ni_X7, ⟨by decide, by decide⟩, by decide +kernel, by decide⟩
theorem mX7_readStatement : j_my yX7_readStatement cX7_readStatement 3 none 1 := ⟨cd_X7_readStatement, ni_X7, ⟨by decide, by decide⟩, by decide +kernel, by decide⟩
theorem mX7_skipBlanks : j_my yX7_skipBlanks cX7_skipBlanks 1 none 0 := ⟨cd_X7_skipBlanks, ni_X7, ⟨by decide, by decide⟩, by decide +kernel, by decide⟩
theorem mX7_readWord : j_my yX7_readWord cX7_readWord 3 (some .int) 0 := ⟨cd_X7_readWord, ni_X7, ⟨by decide, by decide⟩, by decide +kernel, by decide⟩
theorem mX7_spellingOf : j_my yX7_spellingOf cX7_spellingOf 1 (some (.object "java/lang/String")) 1 := ⟨cd_X7_spellingOf, ni_X7, ⟨by decide, by decide⟩, by decide +kernel, by decide⟩
theorem mX7_isSpelled : j_my yX7_isSpelled cX7_isSpelled 4 (some .boolean) 2 := ⟨cd_X7_isSpelled, ni_X7, ⟨by decide, by decide⟩, by decide +kernel, by decide⟩
theorem mJ0_length_8abf5 : j_my yJ0_length_8abf5 cJ0_length_8abf5 1 (some .int) 0 := ⟨cd_J0_length_8abf5, ni_J0, ⟨by decide, by decide⟩, by decide +kernel, by decide⟩
theorem mJ0_coder_7d493 : j_my yJ0_coder_7d493 cJ0_coder_7d493 1 (some .byte) 0 := ⟨cd_J0_coder_7d493, ni_J0, ⟨by decide, by decide⟩, by decide +kernel, by decide⟩
theorem mJ0_charAt_5068e : j_my yJ0_charAt_5068e cJ0_charAt_5068e 2 (some .char) 1 := ⟨cd_J0_charAt_5068e, ni_J0, ⟨by decide, by decide⟩, by decide +kernel, by decide⟩
theorem mJ0_isLatin1_aae02 : j_my yJ0_isLatin1_aae02 cJ0_isLatin1_aae02 1 (some .boolean) 0 := ⟨cd_J0_isLatin1_aae02, ni_J0, ⟨by decide, by decide⟩, by decide +kernel, by decide⟩
theorem mJ1_charAt_3b067 : j_my yJ1_charAt_3b067 cJ1_charAt_3b067 2 (some .char) 2 := ⟨cd_J1_charAt_3b067, ni_J1, ⟨by decide, by decide⟩, by decide +kernel, by decide⟩
theorem mJ0_checkIndex_df160 : j_my yJ0_checkIndex_df160 cJ0_checkIndex_df160 2 none 2 := ⟨cd_J0_checkIndex_df160, ni_J0, ⟨by decide, by decide⟩, by decide +kernel, by decide⟩
theorem mJ3_checkIndex_8e157 : j_my yJ3_checkIndex_8e157 cJ3_checkIndex_8e157 3 (some .int) 3 := ⟨cd_J3_checkIndex_8e157, ni_J3, ⟨by decide, by decide⟩, by decide +kernel, by decide⟩
theorem mJ2_charAt_3b067 : j_my yJ2_charAt_3b067 cJ2_charAt_3b067 2 (some .char) 2 := ⟨cd_J2_charAt_3b067, ni_J2, ⟨by decide, by decide⟩, by decide +kernel, by decide⟩
theorem mJ2_checkIndex_2214a : j_my yJ2_checkIndex_2214a cJ2_checkIndex_2214a 2 none 2 := ⟨cd_J2_checkIndex_2214a, ni_J2, ⟨by decide, by decide⟩, by decide +kernel, by decide⟩
theorem mJ2_length_9d52b : j_my yJ2_length_9d52b cJ2_length_9d52b 1 (some .int) 1 := ⟨cd_J2_length_9d52b, ni_J2, ⟨by decide, by decide⟩, by decide +kernel, by decide⟩
theorem mJ2_getChar_3b067 : j_my yJ2_getChar_3b067 cJ2_getChar_3b067 2 (some .char) 2 := ⟨cd_J2_getChar_3b067, ni_J2, ⟨by decide, by decide⟩, by decide +kernel, by decide⟩
theorem mX7_readPlace : j_my yX7_readPlace cX7_readPlace 4 none 1 := ⟨cd_X7_readPlace, ni_X7, ⟨by decide, by decide⟩, by decide +kernel, by decide⟩
theorem mX7_readNumber : j_my yX7_readNumber cX7_readNumber 5 (some .int) 1 := ⟨cd_X7_readNumber, ni_X7, ⟨by decide, by decide⟩, by decide +kernel, by decide⟩
theorem mX7_isDigit : j_my yX7_isDigit cX7_isDigit 1 (some .boolean) 1 := ⟨cd_X7_isDigit, ni_X7, ⟨by decide, by decide⟩, by decide +kernel, by decide⟩
theorem mX7_readClear : j_my yX7_readClear cX7_readClear 3 none 1 := ⟨cd_X7_readClear, ni_X7, ⟨by decide, by decide⟩, by decide +kernel, by decide⟩
theorem mX7_readLooker : j_my yX7_readLooker cX7_readLooker 6 none 2 := ⟨cd_X7_readLooker, ni_X7, ⟨by decide, by decide⟩, by decide +kernel, by decide⟩
theorem mX7_readLikes : j_my yX7_readLikes cX7_readLikes 4 none 1 := ⟨cd_X7_readLikes, ni_X7, ⟨by decide, by decide⟩, by decide +kernel, by decide⟩
theorem mX7_readComes : j_my yX7_readComes cX7_readComes 4 none 1 := ⟨cd_X7_readComes, ni_X7, ⟨by decide, by decide⟩, by decide +kernel, by decide⟩
theorem mX7_readShine : j_my yX7_readShine cX7_readShine 4 none 1 := ⟨cd_X7_readShine, ni_X7, ⟨by decide, by decide⟩, by decide +kernel, by decide⟩
theorem mX7_readSemicolon : j_my yX7_readSemicolon cX7_readSemicolon 1 (some .boolean) 0 := ⟨cd_X7_readSemicolon, ni_X7, ⟨by decide, by decide⟩, by decide +kernel, by decide⟩
theorem mX9_sortAt : j_my yX9_sortAt cX9_sortAt 2 (some .int) 1 := ⟨cd_X9_sortAt, ni_X9, ⟨by decide, by decide⟩, by decide +kernel, by decide⟩
theorem mX9_lookerOf : j_my yX9_lookerOf cX9_lookerOf 4 (some .int) 2 := ⟨cd_X9_lookerOf, ni_X9, ⟨by decide, by decide⟩, by decide +kernel, by decide⟩
theorem mX9_isHas : j_my yX9_isHas cX9_isHas 1 (some .boolean) 1 := ⟨cd_X9_isHas, ni_X9, ⟨by decide, by decide⟩, by decide +kernel, by decide⟩
theorem mX9_sorts : j_my yX9_sorts cX9_sorts 3 (some .int) 2 := ⟨cd_X9_sorts, ni_X9, ⟨by decide, by decide⟩, by decide +kernel, by decide⟩
theorem mX4_countWhoLike : j_my yX4_countWhoLike cX4_countWhoLike 4 (some .int) 1 := ⟨cd_X4_countWhoLike, ni_X4, ⟨by decide, by decide⟩, by decide +kernel, by decide⟩
theorem mX4_countWithA : j_my yX4_countWithA cX4_countWithA 4 (some .int) 1 := ⟨cd_X4_countWithA, ni_X4, ⟨by decide, by decide⟩, by decide +kernel, by decide⟩
theorem mX9_rare : j_my yX9_rare cX9_rare 3 (some .int) 1 := ⟨cd_X9_rare, ni_X9, ⟨by decide, by decide⟩, by decide +kernel, by decide⟩
theorem mX4_rarestSort : j_my yX4_rarestSort cX4_rarestSort 5 (some .int) 0 := ⟨cd_X4_rarestSort, ni_X4, ⟨by decide, by decide⟩, by decide +kernel, by decide⟩
theorem mX4_commonestSort : j_my yX4_commonestSort cX4_commonestSort 5 (some .int) 0 := ⟨cd_X4_commonestSort, ni_X4, ⟨by decide, by decide⟩, by decide +kernel, by decide⟩
theorem mX9_first : j_my yX9_first cX9_first 3 (some .int) 1 := ⟨cd_X9_first, ni_X9, ⟨by decide, by decide⟩, by decide +kernel, by decide⟩
theorem mX4_firstWithMost : j_my yX4_firstWithMost cX4_firstWithMost 6 (some .int) 1 := ⟨cd_X4_firstWithMost, ni_X4, ⟨by decide, by decide⟩, by decide +kernel, by decide⟩
theorem mX4_measure : j_my yX4_measure cX4_measure 2 (some .int) 2 := ⟨cd_X4_measure, ni_X4, ⟨by decide, by decide⟩, by decide +kernel, by decide⟩
theorem mX3_countHad : j_my yX3_countHad cX3_countHad 3 (some .int) 0 := ⟨cd_X3_countHad, ni_X3, ⟨by decide, by decide⟩, by decide +kernel, by decide⟩
theorem mX9_places : j_my yX9_places cX9_places 1 (some .int) 0 := ⟨cd_X9_places, ni_X9, ⟨by decide, by decide⟩, by decide +kernel, by decide⟩
theorem mX9_left : j_my yX9_left cX9_left 2 (some .int) 1 := ⟨cd_X9_left, ni_X9, ⟨by decide, by decide⟩, by decide +kernel, by decide⟩
theorem mX9_isSet : j_my yX9_isSet cX9_isSet 2 (some .boolean) 1 := ⟨cd_X9_isSet, ni_X9, ⟨by decide, by decide⟩, by decide +kernel, by decide⟩
theorem mX4_everybody : j_my yX4_everybody cX4_everybody 1 (some .int) 0 := ⟨cd_X4_everybody, ni_X4, ⟨by decide, by decide⟩, by decide +kernel, by decide⟩
theorem mX2_run : j_my yX2_run cX2_run 9 none 3 := ⟨cd_X2_run, ni_X2, ⟨by decide, by decide⟩, by decide +kernel, by decide⟩
theorem mX9_taken : j_my yX9_taken cX9_taken 3 (some .int) 2 := ⟨cd_X9_taken, ni_X9, ⟨by decide, by decide⟩, by decide +kernel, by decide⟩
theorem mX9_glad : j_my yX9_glad cX9_glad 3 (some .int) 2 := ⟨cd_X9_glad, ni_X9, ⟨by decide, by decide⟩, by decide +kernel, by decide⟩
theorem mX9_order : j_my yX9_order cX9_order 4 (some .int) 2 := ⟨cd_X9_order, ni_X9, ⟨by decide, by decide⟩, by decide +kernel, by decide⟩
theorem mX4_inOrder : j_my yX4_inOrder cX4_inOrder 6 (some .int) 2 := ⟨cd_X4_inOrder, ni_X4, ⟨by decide, by decide⟩, by decide +kernel, by decide⟩
theorem mX9_gladOnes : j_my yX9_gladOnes cX9_gladOnes 2 (some .int) 1 := ⟨cd_X9_gladOnes, ni_X9, ⟨by decide, by decide⟩, by decide +kernel, by decide⟩
theorem mX9_empty : j_my yX9_empty cX9_empty 2 (some .int) 1 := ⟨cd_X9_empty, ni_X9, ⟨by decide, by decide⟩, by decide +kernel, by decide⟩
theorem mX9_without : j_my yX9_without cX9_without 2 (some .int) 1 := ⟨cd_X9_without, ni_X9, ⟨by decide, by decide⟩, by decide +kernel, by decide⟩
theorem mX9_twice : j_my yX9_twice cX9_twice 3 (some .int) 2 := ⟨cd_X9_twice, ni_X9, ⟨by decide, by decide⟩, by decide +kernel, by decide⟩
theorem mX9_unlike : j_my yX9_unlike cX9_unlike 2 (some .int) 1 := ⟨cd_X9_unlike, ni_X9, ⟨by decide, by decide⟩, by decide +kernel, by decide⟩
theorem mX4_countUnlike : j_my yX4_countUnlike cX4_countUnlike 4 (some .int) 1 := ⟨cd_X4_countUnlike, ni_X4, ⟨by decide, by decide⟩, by decide +kernel, by decide⟩
theorem mX9_judge : j_my yX9_judge cX9_judge 4 (some .int) 2 := ⟨cd_X9_judge, ni_X9, ⟨by decide, by decide⟩, by decide +kernel, by decide⟩
theorem mX4_wrongPair : j_my yX4_wrongPair cX4_wrongPair 8 (some .int) 2 := ⟨cd_X4_wrongPair, ni_X4, ⟨by decide, by decide⟩, by decide +kernel, by decide⟩
theorem mX4_toldLookers : j_my yX4_toldLookers cX4_toldLookers 7 (some .int) 2 := ⟨cd_X4_toldLookers, ni_X4, ⟨by decide, by decide⟩, by decide +kernel, by decide⟩
theorem mX4_firstTaken : j_my yX4_firstTaken cX4_firstTaken 5 (some .int) 2 := ⟨cd_X4_firstTaken, ni_X4, ⟨by decide, by decide⟩, by decide +kernel, by decide⟩
theorem mJ6_numberOfTrailingZeros_0f7a4 : j_my yJ6_numberOfTrailingZeros_0f7a4 cJ6_numberOfTrailingZeros_0f7a4 2 (some .int) 1 := ⟨cd_J6_numberOfTrailingZeros_0f7a4, ni_J6, ⟨by decide, by decide⟩, by decide +kernel, by decide⟩
theorem mX9_away : j_my yX9_away cX9_away 3 (some .int) 2 := ⟨cd_X9_away, ni_X9, ⟨by decide, by decide⟩, by decide +kernel, by decide⟩
theorem mX1_findAway : j_my yX1_findAway cX1_findAway 6 none 2 := ⟨cd_X1_findAway, ni_X1, ⟨by decide, by decide⟩, by decide +kernel, by decide⟩
theorem mX9_crowd : j_my yX9_crowd cX9_crowd 3 (some .int) 2 := ⟨cd_X9_crowd, ni_X9, ⟨by decide, by decide⟩, by decide +kernel, by decide⟩
theorem mX1_findGladdest : j_my yX1_findGladdest cX1_findGladdest 6 none 2 := ⟨cd_X1_findGladdest, ni_X1, ⟨by decide, by decide⟩, by decide +kernel, by decide⟩
theorem mX9_who : j_my yX9_who cX9_who 3 (some .int) 2 := ⟨cd_X9_who, ni_X9, ⟨by decide, by decide⟩, by decide +kernel, by decide⟩
theorem mX9_isPlaces : j_my yX9_isPlaces cX9_isPlaces 1 (some .boolean) 1 := ⟨cd_X9_isPlaces, ni_X9, ⟨by decide, by decide⟩, by decide +kernel, by decide⟩
theorem mX1_findLeaving : j_my yX1_findLeaving cX1_findLeaving 5 none 2 := ⟨cd_X1_findLeaving, ni_X1, ⟨by decide, by decide⟩, by decide +kernel, by decide⟩
theorem mX9_odds : j_my yX9_odds cX9_odds 2 (some .int) 1 := ⟨cd_X9_odds, ni_X9, ⟨by decide, by decide⟩, by decide +kernel, by decide⟩
theorem mX0_ofLeft : j_my yX0_ofLeft cX0_ofLeft 7 (some .int) 2 := ⟨cd_X0_ofLeft, ni_X0, ⟨by decide, by decide⟩, by decide +kernel, by decide⟩
theorem mX0_waysOf : j_my yX0_waysOf cX0_waysOf 7 (some .long) 3 := ⟨cd_X0_waysOf, ni_X0, ⟨by decide, by decide⟩, by decide +kernel, by decide⟩
theorem mX0_share : j_my yX0_share cX0_share 8 (some .int) 3 := ⟨cd_X0_share, ni_X0, ⟨by decide, by decide⟩, by decide +kernel, by decide⟩
theorem mX9_likely : j_my yX9_likely cX9_likely 2 (some .int) 1 := ⟨cd_X9_likely, ni_X9, ⟨by decide, by decide⟩, by decide +kernel, by decide⟩
theorem mX0_ofGlad : j_my yX0_ofGlad cX0_ofGlad 7 (some .int) 2 := ⟨cd_X0_ofGlad, ni_X0, ⟨by decide, by decide⟩, by decide +kernel, by decide⟩
theorem mX9_gladOdds : j_my yX9_gladOdds cX9_gladOdds 2 (some .int) 1 := ⟨cd_X9_gladOdds, ni_X9, ⟨by decide, by decide⟩, by decide +kernel, by decide⟩
theorem mX0_ofManyGlad : j_my yX0_ofManyGlad cX0_ofManyGlad 7 (some .int) 2 := ⟨cd_X0_ofManyGlad, ni_X0, ⟨by decide, by decide⟩, by decide +kernel, by decide⟩
theorem mX9_meanLeft : j_my yX9_meanLeft cX9_meanLeft 1 (some .int) 0 := ⟨cd_X9_meanLeft, ni_X9, ⟨by decide, by decide⟩, by decide +kernel, by decide⟩
theorem mX0_meanOfLeft : j_my yX0_meanOfLeft cX0_meanOfLeft 6 (some .int) 1 := ⟨cd_X0_meanOfLeft, ni_X0, ⟨by decide, by decide⟩, by decide +kernel, by decide⟩
theorem mX9_setOut : j_my yX9_setOut cX9_setOut 4 (some .int) 2 := ⟨cd_X9_setOut, ni_X9, ⟨by decide, by decide⟩, by decide +kernel, by decide⟩
theorem mX8_findSetOut : j_my yX8_findSetOut cX8_findSetOut 6 (some .int) 2 := ⟨cd_X8_findSetOut, ni_X8, ⟨by decide, by decide⟩, by decide +kernel, by decide⟩
theorem mX8_findEmptyPlaces : j_my yX8_findEmptyPlaces cX8_findEmptyPlaces 3 (some .int) 0 := ⟨cd_X8_findEmptyPlaces, ni_X8, ⟨by decide, by decide⟩, by decide +kernel, by decide⟩
theorem mX8_isEnough : j_my yX8_isEnough cX8_isEnough 6 (some .boolean) 3 := ⟨cd_X8_isEnough, ni_X8, ⟨by decide, by decide⟩, by decide +kernel, by decide⟩
theorem mX8_putRow : j_my yX8_putRow cX8_putRow 6 (some .boolean) 3 := ⟨cd_X8_putRow, ni_X8, ⟨by decide, by decide⟩, by decide +kernel, by decide⟩
theorem mX8_sortSetOut : j_my yX8_sortSetOut cX8_sortSetOut 2 (some .int) 1 := ⟨cd_X8_sortSetOut, ni_X8, ⟨by decide, by decide⟩, by decide +kernel, by decide⟩
theorem mX9_kinds : j_my yX9_kinds cX9_kinds 5 (some .int) 4 := ⟨cd_X9_kinds, ni_X9, ⟨by decide, by decide⟩, by decide +kernel, by decide⟩
theorem mX8_kindsTaking : j_my yX8_kindsTaking cX8_kindsTaking 7 (some .int) 4 := ⟨cd_X8_kindsTaking, ni_X8, ⟨by decide, by decide⟩, by decide +kernel, by decide⟩
theorem mX8_wishesTaking : j_my yX8_wishesTaking cX8_wishesTaking 7 (some .int) 4 := ⟨cd_X8_wishesTaking, ni_X8, ⟨by decide, by decide⟩, by decide +kernel, by decide⟩
theorem mX9_exchanged : j_my yX9_exchanged cX9_exchanged 3 (some .int) 2 := ⟨cd_X9_exchanged, ni_X9, ⟨by decide, by decide⟩, by decide +kernel, by decide⟩
theorem mX8_gladExchanged : j_my yX8_gladExchanged cX8_gladExchanged 4 (some .int) 3 := ⟨cd_X8_gladExchanged, ni_X8, ⟨by decide, by decide⟩, by decide +kernel, by decide⟩
theorem mX9_bestPair : j_my yX9_bestPair cX9_bestPair 1 (some .int) 0 := ⟨cd_X9_bestPair, ni_X9, ⟨by decide, by decide⟩, by decide +kernel, by decide⟩
theorem mX8_bestExchange : j_my yX8_bestExchange cX8_bestExchange 7 (some .int) 1 := ⟨cd_X8_bestExchange, ni_X8, ⟨by decide, by decide⟩, by decide +kernel, by decide⟩
theorem mX9_oldest : j_my yX9_oldest cX9_oldest 2 (some .int) 1 := ⟨cd_X9_oldest, ni_X9, ⟨by decide, by decide⟩, by decide +kernel, by decide⟩
theorem mX8_greatestGladAge : j_my yX8_greatestGladAge cX8_greatestGladAge 4 (some .int) 2 := ⟨cd_X8_greatestGladAge, ni_X8, ⟨by decide, by decide⟩, by decide +kernel, by decide⟩
theorem mX9_next : j_my yX9_next cX9_next 2 (some .int) 1 := ⟨cd_X9_next, ni_X9, ⟨by decide, by decide⟩, by decide +kernel, by decide⟩
theorem mX6_settle : j_my yX6_settle cX6_settle 4 none 1 := ⟨cd_X6_settle, ni_X6, ⟨by decide, by decide⟩, by decide +kernel, by decide⟩
theorem mX4_bringers : j_my yX4_bringers cX4_bringers 3 (some .int) 0 := ⟨cd_X4_bringers, ni_X4, ⟨by decide, by decide⟩, by decide +kernel, by decide⟩
theorem mX6_settleRings : j_my yX6_settleRings cX6_settleRings 5 (some .int) 2 := ⟨cd_X6_settleRings, ni_X6, ⟨by decide, by decide⟩, by decide +kernel, by decide⟩
theorem mX6_wishOf : j_my yX6_wishOf cX6_wishOf 7 (some .int) 3 := ⟨cd_X6_wishOf, ni_X6, ⟨by decide, by decide⟩, by decide +kernel, by decide⟩
theorem mX6_firstWhoBrings : j_my yX6_firstWhoBrings cX6_firstWhoBrings 4 (some .int) 3 := ⟨cd_X6_firstWhoBrings, ni_X6, ⟨by decide, by decide⟩, by decide +kernel, by decide⟩
theorem mX6_isOnRing : j_my yX6_isOnRing cX6_isOnRing 4 (some .boolean) 1 := ⟨cd_X6_isOnRing, ni_X6, ⟨by decide, by decide⟩, by decide +kernel, by decide⟩
theorem mX9_swapped : j_my yX9_swapped cX9_swapped 1 (some .int) 0 := ⟨cd_X9_swapped, ni_X9, ⟨by decide, by decide⟩, by decide +kernel, by decide⟩
theorem mX6_countOthers : j_my yX6_countOthers cX6_countOthers 4 (some .int) 1 := ⟨cd_X6_countOthers, ni_X6, ⟨by decide, by decide⟩, by decide +kernel, by decide⟩
theorem mX9_swap : j_my yX9_swap cX9_swap 2 (some .int) 0 := ⟨cd_X9_swap, ni_X9, ⟨by decide, by decide⟩, by decide +kernel, by decide⟩
theorem mX6_carryOut : j_my yX6_carryOut cX6_carryOut 4 none 1 := ⟨cd_X6_carryOut, ni_X6, ⟨by decide, by decide⟩, by decide +kernel, by decide⟩
theorem mX3_lose : j_my yX3_lose cX3_lose 2 none 1 := ⟨cd_X3_lose, ni_X3, ⟨by decide, by decide⟩, by decide +kernel, by decide⟩
theorem mJ9_max_7cf53 : j_my yJ9_max_7cf53 cJ9_max_7cf53 2 (some .int) 2 := ⟨cd_J9_max_7cf53, ni_J9, ⟨by decide, by decide⟩, by decide +kernel, by decide⟩
theorem mX3_gain : j_my yX3_gain cX3_gain 2 none 1 := ⟨cd_X3_gain, ni_X3, ⟨by decide, by decide⟩, by decide +kernel, by decide⟩
theorem mJ9_min_7cf53 : j_my yJ9_min_7cf53 cJ9_min_7cf53 2 (some .int) 2 := ⟨cd_J9_min_7cf53, ni_J9, ⟨by decide, by decide⟩, by decide +kernel, by decide⟩
theorem mX9_evening : j_my yX9_evening cX9_evening 2 (some .int) 1 := ⟨cd_X9_evening, ni_X9, ⟨by decide, by decide⟩, by decide +kernel, by decide⟩
theorem mX2_runInTruth : j_my yX2_runInTruth cX2_runInTruth 6 (some .int) 2 := ⟨cd_X2_runInTruth, ni_X2, ⟨by decide, by decide⟩, by decide +kernel, by decide⟩
theorem mX2_handOver : j_my yX2_handOver cX2_handOver 6 none 2 := ⟨cd_X2_handOver, ni_X2, ⟨by decide, by decide⟩, by decide +kernel, by decide⟩
theorem mX9_christmases : j_my yX9_christmases cX9_christmases 4 (some .int) 1 := ⟨cd_X9_christmases, ni_X9, ⟨by decide, by decide⟩, by decide +kernel, by decide⟩
theorem mX4_drawWhoCome : j_my yX4_drawWhoCome cX4_drawWhoCome 3 (some .int) 0 := ⟨cd_X4_drawWhoCome, ni_X4, ⟨by decide, by decide⟩, by decide +kernel, by decide⟩
theorem mX4_draw : j_my yX4_draw cX4_draw 2 (some .int) 1 := ⟨cd_X4_draw, ni_X4, ⟨by decide, by decide⟩, by decide +kernel, by decide⟩
theorem mX4_drawThings : j_my yX4_drawThings cX4_drawThings 2 none 0 := ⟨cd_X4_drawThings, ni_X4, ⟨by decide, by decide⟩, by decide +kernel, by decide⟩
theorem mX9_seed : j_my yX9_seed cX9_seed 3 (some .int) 1 := ⟨cd_X9_seed, ni_X9, ⟨by decide, by decide⟩, by decide +kernel, by decide⟩
theorem mX9_image : j_my yX9_image cX9_image 1 (some .int) 0 := ⟨cd_X9_image, ni_X9, ⟨by decide, by decide⟩, by decide +kernel, by decide⟩
theorem mX9_back : j_my yX9_back cX9_back 3 (some .int) 0 := ⟨cd_X9_back, ni_X9, ⟨by decide, by decide⟩, by decide +kernel, by decide⟩
theorem mX9_status : j_my yX9_status cX9_status 2 (some .int) 1 := ⟨cd_X9_status, ni_X9, ⟨by decide, by decide⟩, by decide +kernel, by decide⟩
theorem mX4_countHad : j_my yX4_countHad cX4_countHad 3 (some .int) 0 := ⟨cd_X4_countHad, ni_X4, ⟨by decide, by decide⟩, by decide +kernel, by decide⟩
theorem mX9_countShelvesInUse : j_my yX9_countShelvesInUse cX9_countShelvesInUse 3 (some .int) 0 := ⟨cd_X9_countShelvesInUse, ni_X9, ⟨by decide, by decide⟩, by decide +kernel, by decide⟩
theorem mX9_refusalsOf : j_my yX9_refusalsOf cX9_refusalsOf 3 (some .int) 1 := ⟨cd_X9_refusalsOf, ni_X9, ⟨by decide, by decide⟩, by decide +kernel, by decide⟩
theorem mX10_init : j_my yX10_init cX10_init 2 none 0 := ⟨cd_X10_init, ni_X10, ⟨by decide, by decide⟩, by decide +kernel, by decide⟩
theorem mX10_row : j_my yX10_row cX10_row 5 (some .int) 3 := ⟨cd_X10_row, ni_X10, ⟨by decide, by decide⟩, by decide +kernel, by decide⟩
theorem mX10_isShelf : j_my yX10_isShelf cX10_isShelf 1 (some .boolean) 1 := ⟨cd_X10_isShelf, ni_X10, ⟨by decide, by decide⟩, by decide +kernel, by decide⟩
theorem mX10_within : j_my yX10_within cX10_within 3 (some .boolean) 3 := ⟨cd_X10_within, ni_X10, ⟨by decide, by decide⟩, by decide +kernel, by decide⟩
theorem mX10_no : j_my yX10_no cX10_no 2 (some .int) 1 := ⟨cd_X10_no, ni_X10, ⟨by decide, by decide⟩, by decide +kernel, by decide⟩
theorem mX10_set : j_my yX10_set cX10_set 5 (some .int) 3 := ⟨cd_X10_set, ni_X10, ⟨by decide, by decide⟩, by decide +kernel, by decide⟩
theorem mX10_isRow : j_my yX10_isRow cX10_isRow 2 (some .boolean) 1 := ⟨cd_X10_isRow, ni_X10, ⟨by decide, by decide⟩, by decide +kernel, by decide⟩
theorem mX10_noRow : j_my yX10_noRow cX10_noRow 2 (some .int) 1 := ⟨cd_X10_noRow, ni_X10, ⟨by decide, by decide⟩, by decide +kernel, by decide⟩
theorem mX10_kept : j_my yX10_kept cX10_kept 3 (some .long) 2 := ⟨cd_X10_kept, ni_X10, ⟨by decide, by decide⟩, by decide +kernel, by decide⟩
theorem mX10_copy : j_my yX10_copy cX10_copy 7 (some .int) 5 := ⟨cd_X10_copy, ni_X10, ⟨by decide, by decide⟩, by decide +kernel, by decide⟩
theorem mX10_element : j_my yX10_element cX10_element 3 (some .long) 2 := ⟨cd_X10_element, ni_X10, ⟨by decide, by decide⟩, by decide +kernel, by decide⟩
theorem mX10_holds : j_my yX10_holds cX10_holds 2 (some .int) 1 := ⟨cd_X10_holds, ni_X10, ⟨by decide, by decide⟩, by decide +kernel, by decide⟩
theorem mX10_show : j_my yX10_show cX10_show 3 (some .int) 2 := ⟨cd_X10_show, ni_X10, ⟨by decide, by decide⟩, by decide +kernel, by decide⟩
theorem mX10_isLooker : j_my yX10_isLooker cX10_isLooker 2 (some .boolean) 1 := ⟨cd_X10_isLooker, ni_X10, ⟨by decide, by decide⟩, by decide +kernel, by decide⟩
theorem mX10_says : j_my yX10_says cX10_says 4 (some .int) 2 := ⟨cd_X10_says, ni_X10, ⟨by decide, by decide⟩, by decide +kernel, by decide⟩
theorem mX10_isUnder : j_my yX10_isUnder cX10_isUnder 2 (some .boolean) 2 := ⟨cd_X10_isUnder, ni_X10, ⟨by decide, by decide⟩, by decide +kernel, by decide⟩
theorem mX10_runs : j_my yX10_runs cX10_runs 3 none 1 := ⟨cd_X10_runs, ni_X10, ⟨by decide, by decide⟩, by decide +kernel, by decide⟩
theorem mX10_begins : j_my yX10_begins cX10_begins 3 none 1 := ⟨cd_X10_begins, ni_X10, ⟨by decide, by decide⟩, by decide +kernel, by decide⟩
theorem mX10_orders : j_my yX10_orders cX10_orders 4 none 1 := ⟨cd_X10_orders, ni_X10, ⟨by decide, by decide⟩, by decide +kernel, by decide⟩
theorem mX10_in : j_my yX10_in cX10_in 2 (some .boolean) 2 := ⟨cd_X10_in, ni_X10, ⟨by decide, by decide⟩, by decide +kernel, by decide⟩
theorem mX10_lookerGoes : j_my yX10_lookerGoes cX10_lookerGoes 3 none 1 := ⟨cd_X10_lookerGoes, ni_X10, ⟨by decide, by decide⟩, by decide +kernel, by decide⟩
theorem mX10_lastLiked : j_my yX10_lastLiked cX10_lastLiked 4 (some .int) 1 := ⟨cd_X10_lastLiked, ni_X10, ⟨by decide, by decide⟩, by decide +kernel, by decide⟩
theorem mX10_doesLike : j_my yX10_doesLike cX10_doesLike 3 (some .boolean) 2 := ⟨cd_X10_doesLike, ni_X10, ⟨by decide, by decide⟩, by decide +kernel, by decide⟩
theorem mX10_takes : j_my yX10_takes cX10_takes 3 none 2 := ⟨cd_X10_takes, ni_X10, ⟨by decide, by decide⟩, by decide +kernel, by decide⟩
theorem mX10_firstWith : j_my yX10_firstWith cX10_firstWith 3 (some .int) 1 := ⟨cd_X10_firstWith, ni_X10, ⟨by decide, by decide⟩, by decide +kernel, by decide⟩
theorem mX10_look : j_my yX10_look cX10_look 4 (some .int) 1 := ⟨cd_X10_look, ni_X10, ⟨by decide, by decide⟩, by decide +kernel, by decide⟩
theorem mX10_manyOf : j_my yX10_manyOf cX10_manyOf 4 (some .int) 1 := ⟨cd_X10_manyOf, ni_X10, ⟨by decide, by decide⟩, by decide +kernel, by decide⟩
theorem mX10_shyest : j_my yX10_shyest cX10_shyest 5 (some .int) 1 := ⟨cd_X10_shyest, ni_X10, ⟨by decide, by decide⟩, by decide +kernel, by decide⟩
theorem mX10_place : j_my yX10_place cX10_place 4 (some .int) 2 := ⟨cd_X10_place, ni_X10, ⟨by decide, by decide⟩, by decide +kernel, by decide⟩
theorem mX10_isPlace : j_my yX10_isPlace cX10_isPlace 1 (some .boolean) 1 := ⟨cd_X10_isPlace, ni_X10, ⟨by decide, by decide⟩, by decide +kernel, by decide⟩
theorem mX10_looker : j_my yX10_looker cX10_looker 4 (some .int) 3 := ⟨cd_X10_looker, ni_X10, ⟨by decide, by decide⟩, by decide +kernel, by decide⟩
theorem mX10_isSort : j_my yX10_isSort cX10_isSort 1 (some .boolean) 1 := ⟨cd_X10_isSort, ni_X10, ⟨by decide, by decide⟩, by decide +kernel, by decide⟩
theorem mX10_newLooker : j_my yX10_newLooker cX10_newLooker 5 (some .int) 3 := ⟨cd_X10_newLooker, ni_X10, ⟨by decide, by decide⟩, by decide +kernel, by decide⟩
theorem mX10_likes : j_my yX10_likes cX10_likes 5 (some .int) 3 := ⟨cd_X10_likes, ni_X10, ⟨by decide, by decide⟩, by decide +kernel, by decide⟩
theorem mX10_tell : j_my yX10_tell cX10_tell 5 (some .int) 3 := ⟨cd_X10_tell, ni_X10, ⟨by decide, by decide⟩, by decide +kernel, by decide⟩
theorem mX10_feed : j_my yX10_feed cX10_feed 2 (some .int) 1 := ⟨cd_X10_feed, ni_X10, ⟨by decide, by decide⟩, by decide +kernel, by decide⟩
theorem mX10_wipe : j_my yX10_wipe cX10_wipe 2 (some .int) 0 := ⟨cd_X10_wipe, ni_X10, ⟨by decide, by decide⟩, by decide +kernel, by decide⟩
theorem mX10_window : j_my yX10_window cX10_window 3 (some .int) 0 := ⟨cd_X10_window, ni_X10, ⟨by decide, by decide⟩, by decide +kernel, by decide⟩
theorem mX10_keep : j_my yX10_keep cX10_keep 3 none 1 := ⟨cd_X10_keep, ni_X10, ⟨by decide, by decide⟩, by decide +kernel, by decide⟩
theorem mX10_next : j_my yX10_next cX10_next 2 none 0 := ⟨cd_X10_next, ni_X10, ⟨by decide, by decide⟩, by decide +kernel, by decide⟩
theorem mX10_isLetter : j_my yX10_isLetter cX10_isLetter 1 (some .boolean) 1 := ⟨cd_X10_isLetter, ni_X10, ⟨by decide, by decide⟩, by decide +kernel, by decide⟩
theorem mX10_isDigit : j_my yX10_isDigit cX10_isDigit 1 (some .boolean) 1 := ⟨cd_X10_isDigit, ni_X10, ⟨by decide, by decide⟩, by decide +kernel, by decide⟩
theorem mX10_statement : j_my yX10_statement cX10_statement 4 (some .boolean) 0 := ⟨cd_X10_statement, ni_X10, ⟨by decide, by decide⟩, by decide +kernel, by decide⟩
theorem mX10_isWord : j_my yX10_isWord cX10_isWord 3 (some .boolean) 1 := ⟨cd_X10_isWord, ni_X10, ⟨by decide, by decide⟩, by decide +kernel, by decide⟩
theorem mX10_number : j_my yX10_number cX10_number 3 (some .int) 2 := ⟨cd_X10_number, ni_X10, ⟨by decide, by decide⟩, by decide +kernel, by decide⟩
theorem mX10_again : j_my yX10_again cX10_again 3 none 1 := ⟨cd_X10_again, ni_X10, ⟨by decide, by decide⟩, by decide +kernel, by decide⟩
theorem mX10_sortAt : j_my yX10_sortAt cX10_sortAt 2 (some .int) 1 := ⟨cd_X10_sortAt, ni_X10, ⟨by decide, by decide⟩, by decide +kernel, by decide⟩
theorem mX10_lookerOf : j_my yX10_lookerOf cX10_lookerOf 3 (some .int) 2 := ⟨cd_X10_lookerOf, ni_X10, ⟨by decide, by decide⟩, by decide +kernel, by decide⟩
theorem mX10_left : j_my yX10_left cX10_left 2 (some .int) 1 := ⟨cd_X10_left, ni_X10, ⟨by decide, by decide⟩, by decide +kernel, by decide⟩
theorem mX10_isSet : j_my yX10_isSet cX10_isSet 2 (some .boolean) 1 := ⟨cd_X10_isSet, ni_X10, ⟨by decide, by decide⟩, by decide +kernel, by decide⟩
theorem mX10_leftThen : j_my yX10_leftThen cX10_leftThen 3 (some .int) 0 := ⟨cd_X10_leftThen, ni_X10, ⟨by decide, by decide⟩, by decide +kernel, by decide⟩
theorem mX10_taken : j_my yX10_taken cX10_taken 3 (some .int) 2 := ⟨cd_X10_taken, ni_X10, ⟨by decide, by decide⟩, by decide +kernel, by decide⟩
theorem mX10_glad : j_my yX10_glad cX10_glad 6 (some .int) 2 := ⟨cd_X10_glad, ni_X10, ⟨by decide, by decide⟩, by decide +kernel, by decide⟩
theorem mX10_gladOf : j_my yX10_gladOf cX10_gladOf 4 (some .int) 1 := ⟨cd_X10_gladOf, ni_X10, ⟨by decide, by decide⟩, by decide +kernel, by decide⟩
theorem mX10_isGlad : j_my yX10_isGlad cX10_isGlad 3 (some .boolean) 1 := ⟨cd_X10_isGlad, ni_X10, ⟨by decide, by decide⟩, by decide +kernel, by decide⟩
theorem mX10_order : j_my yX10_order cX10_order 3 (some .int) 2 := ⟨cd_X10_order, ni_X10, ⟨by decide, by decide⟩, by decide +kernel, by decide⟩
theorem mX10_away : j_my yX10_away cX10_away 6 (some .int) 2 := ⟨cd_X10_away, ni_X10, ⟨by decide, by decide⟩, by decide +kernel, by decide⟩
theorem mX10_crowd : j_my yX10_crowd cX10_crowd 7 (some .int) 2 := ⟨cd_X10_crowd, ni_X10, ⟨by decide, by decide⟩, by decide +kernel, by decide⟩
theorem mX10_setOut : j_my yX10_setOut cX10_setOut 5 (some .int) 2 := ⟨cd_X10_setOut, ni_X10, ⟨by decide, by decide⟩, by decide +kernel, by decide⟩
theorem mX10_putsOut : j_my yX10_putsOut cX10_putsOut 8 (some .boolean) 4 := ⟨cd_X10_putsOut, ni_X10, ⟨by decide, by decide⟩, by decide +kernel, by decide⟩
theorem mX10_who : j_my yX10_who cX10_who 8 (some .int) 2 := ⟨cd_X10_who, ni_X10, ⟨by decide, by decide⟩, by decide +kernel, by decide⟩
theorem mX10_arePlaces : j_my yX10_arePlaces cX10_arePlaces 1 (some .boolean) 1 := ⟨cd_X10_arePlaces, ni_X10, ⟨by decide, by decide⟩, by decide +kernel, by decide⟩
theorem mX10_kinds : j_my yX10_kinds cX10_kinds 9 (some .int) 4 := ⟨cd_X10_kinds, ni_X10, ⟨by decide, by decide⟩, by decide +kernel, by decide⟩
theorem mX10_odds : j_my yX10_odds cX10_odds 5 (some .int) 1 := ⟨cd_X10_odds, ni_X10, ⟨by decide, by decide⟩, by decide +kernel, by decide⟩
theorem mX10_waysOf : j_my yX10_waysOf cX10_waysOf 6 (some .long) 2 := ⟨cd_X10_waysOf, ni_X10, ⟨by decide, by decide⟩, by decide +kernel, by decide⟩
theorem mX10_allWays : j_my yX10_allWays cX10_allWays 5 (some .long) 1 := ⟨cd_X10_allWays, ni_X10, ⟨by decide, by decide⟩, by decide +kernel, by decide⟩
theorem mX10_likely : j_my yX10_likely cX10_likely 5 (some .int) 1 := ⟨cd_X10_likely, ni_X10, ⟨by decide, by decide⟩, by decide +kernel, by decide⟩
theorem mX10_gladOdds : j_my yX10_gladOdds cX10_gladOdds 5 (some .int) 1 := ⟨cd_X10_gladOdds, ni_X10, ⟨by decide, by decide⟩, by decide +kernel, by decide⟩
theorem mX10_meanLeft : j_my yX10_meanLeft cX10_meanLeft 4 (some .int) 0 := ⟨cd_X10_meanLeft, ni_X10, ⟨by decide, by decide⟩, by decide +kernel, by decide⟩
theorem mX10_empty : j_my yX10_empty cX10_empty 4 (some .int) 1 := ⟨cd_X10_empty, ni_X10, ⟨by decide, by decide⟩, by decide +kernel, by decide⟩
theorem mX10_without : j_my yX10_without cX10_without 2 (some .int) 1 := ⟨cd_X10_without, ni_X10, ⟨by decide, by decide⟩, by decide +kernel, by decide⟩
theorem mX10_exchanged : j_my yX10_exchanged cX10_exchanged 3 (some .int) 2 := ⟨cd_X10_exchanged, ni_X10, ⟨by decide, by decide⟩, by decide +kernel, by decide⟩
theorem mX10_exchanges : j_my yX10_exchanges cX10_exchanges 5 (some .int) 2 := ⟨cd_X10_exchanges, ni_X10, ⟨by decide, by decide⟩, by decide +kernel, by decide⟩
theorem mX10_bestPair : j_my yX10_bestPair cX10_bestPair 6 (some .int) 0 := ⟨cd_X10_bestPair, ni_X10, ⟨by decide, by decide⟩, by decide +kernel, by decide⟩
theorem mX10_gladOnes : j_my yX10_gladOnes cX10_gladOnes 4 (some .int) 1 := ⟨cd_X10_gladOnes, ni_X10, ⟨by decide, by decide⟩, by decide +kernel, by decide⟩
theorem mX10_oldest : j_my yX10_oldest cX10_oldest 5 (some .int) 1 := ⟨cd_X10_oldest, ni_X10, ⟨by decide, by decide⟩, by decide +kernel, by decide⟩
theorem mX10_twice : j_my yX10_twice cX10_twice 4 (some .int) 2 := ⟨cd_X10_twice, ni_X10, ⟨by decide, by decide⟩, by decide +kernel, by decide⟩
theorem mX10_unlike : j_my yX10_unlike cX10_unlike 4 (some .int) 1 := ⟨cd_X10_unlike, ni_X10, ⟨by decide, by decide⟩, by decide +kernel, by decide⟩
theorem mX10_places : j_my yX10_places cX10_places 3 (some .int) 0 := ⟨cd_X10_places, ni_X10, ⟨by decide, by decide⟩, by decide +kernel, by decide⟩
theorem mX10_sorts : j_my yX10_sorts cX10_sorts 5 (some .int) 2 := ⟨cd_X10_sorts, ni_X10, ⟨by decide, by decide⟩, by decide +kernel, by decide⟩
theorem mX10_inWindow : j_my yX10_inWindow cX10_inWindow 4 (some .int) 1 := ⟨cd_X10_inWindow, ni_X10, ⟨by decide, by decide⟩, by decide +kernel, by decide⟩
theorem mX10_rare : j_my yX10_rare cX10_rare 5 (some .int) 1 := ⟨cd_X10_rare, ni_X10, ⟨by decide, by decide⟩, by decide +kernel, by decide⟩
theorem mX10_first : j_my yX10_first cX10_first 4 (some .int) 1 := ⟨cd_X10_first, ni_X10, ⟨by decide, by decide⟩, by decide +kernel, by decide⟩
theorem mX10_rank : j_my yX10_rank cX10_rank 5 (some .int) 2 := ⟨cd_X10_rank, ni_X10, ⟨by decide, by decide⟩, by decide +kernel, by decide⟩
theorem mX10_next_ : j_my yX10_next_ cX10_next_ 2 (some .int) 1 := ⟨cd_X10_next_, ni_X10, ⟨by decide, by decide⟩, by decide +kernel, by decide⟩
theorem mX10_swaps : j_my yX10_swaps cX10_swaps 4 none 0 := ⟨cd_X10_swaps, ni_X10, ⟨by decide, by decide⟩, by decide +kernel, by decide⟩
theorem mX10_wishOf : j_my yX10_wishOf cX10_wishOf 4 (some .int) 1 := ⟨cd_X10_wishOf, ni_X10, ⟨by decide, by decide⟩, by decide +kernel, by decide⟩
theorem mX10_bringer : j_my yX10_bringer cX10_bringer 3 (some .int) 1 := ⟨cd_X10_bringer, ni_X10, ⟨by decide, by decide⟩, by decide +kernel, by decide⟩
theorem mX10_isRing : j_my yX10_isRing cX10_isRing 4 (some .boolean) 1 := ⟨cd_X10_isRing, ni_X10, ⟨by decide, by decide⟩, by decide +kernel, by decide⟩
theorem mX10_swapped : j_my yX10_swapped cX10_swapped 1 (some .int) 0 := ⟨cd_X10_swapped, ni_X10, ⟨by decide, by decide⟩, by decide +kernel, by decide⟩
theorem mX10_others : j_my yX10_others cX10_others 3 (some .int) 0 := ⟨cd_X10_others, ni_X10, ⟨by decide, by decide⟩, by decide +kernel, by decide⟩
theorem mX10_judge : j_my yX10_judge cX10_judge 3 (some .int) 2 := ⟨cd_X10_judge, ni_X10, ⟨by decide, by decide⟩, by decide +kernel, by decide⟩
theorem mX10_wrong : j_my yX10_wrong cX10_wrong 5 (some .int) 2 := ⟨cd_X10_wrong, ni_X10, ⟨by decide, by decide⟩, by decide +kernel, by decide⟩
theorem mX10_toldAt : j_my yX10_toldAt cX10_toldAt 3 (some .long) 2 := ⟨cd_X10_toldAt, ni_X10, ⟨by decide, by decide⟩, by decide +kernel, by decide⟩
theorem mX10_evening : j_my yX10_evening cX10_evening 2 (some .int) 1 := ⟨cd_X10_evening, ni_X10, ⟨by decide, by decide⟩, by decide +kernel, by decide⟩
theorem mX10_goes : j_my yX10_goes cX10_goes 5 (some .int) 1 := ⟨cd_X10_goes, ni_X10, ⟨by decide, by decide⟩, by decide +kernel, by decide⟩
theorem mX10_swap : j_my yX10_swap cX10_swap 3 (some .int) 0 := ⟨cd_X10_swap, ni_X10, ⟨by decide, by decide⟩, by decide +kernel, by decide⟩
theorem mX10_christmases : j_my yX10_christmases cX10_christmases 6 (some .int) 1 := ⟨cd_X10_christmases, ni_X10, ⟨by decide, by decide⟩, by decide +kernel, by decide⟩
theorem mX10_draw : j_my yX10_draw cX10_draw 2 (some .int) 1 := ⟨cd_X10_draw, ni_X10, ⟨by decide, by decide⟩, by decide +kernel, by decide⟩
theorem mX10_seed : j_my yX10_seed cX10_seed 3 (some .int) 1 := ⟨cd_X10_seed, ni_X10, ⟨by decide, by decide⟩, by decide +kernel, by decide⟩
theorem mX10_image : j_my yX10_image cX10_image 1 (some .int) 0 := ⟨cd_X10_image, ni_X10, ⟨by decide, by decide⟩, by decide +kernel, by decide⟩
theorem mX10_back : j_my yX10_back cX10_back 2 (some .int) 0 := ⟨cd_X10_back, ni_X10, ⟨by decide, by decide⟩, by decide +kernel, by decide⟩
theorem mX10_status : j_my yX10_status cX10_status 4 (some .int) 1 := ⟨cd_X10_status, ni_X10, ⟨by decide, by decide⟩, by decide +kernel, by decide⟩
theorem j_up (N : Nat) (P : Nat → Prop) (h : ∀ k, k ≤ N → (k < N → P (k + 1)) → P k) : ∀ k, k ≤ N → P k := by
  have key : ∀ n k, k ≤ N → N - k < n → P k := by
    intro n
    induction n with
    | zero => intro k _ h2; exact absurd h2 (Nat.not_lt_zero _)
    | succ n ih => exact fun k hk h2 => h k hk (fun h3 => ih (k + 1) h3 (by omega))
  exact fun k hk => key (N - k + 1) k hk (Nat.lt_succ_self _)
theorem j_inc (k : Nat) : nI k + Int32.ofInt 1 = nI (k + 1) := nI_1 k
def b2i (p : Prop) [Decidable p] : Int32 := if p then 1 else 0
theorem b2i_0 {p : Prop} [Decidable p] : (b2i p = 0) = ¬ p := by
  unfold b2i
  by_cases h : p <;> simp [h]
theorem b2i_t {p : Prop} [Decidable p] (h : p) : b2i p = 1 := if_pos h
theorem b2i_f {p : Prop} [Decidable p] (h : ¬ p) : b2i p = 0 := if_neg h
section more
variable {X : j_X} {post : j_ps} {pc : Nat} {lo lo' : j_lo} {st : List Value} {μ : j_M} {cc : ByteArray} {own : String} {d : Nat} {rt : Option FieldType} {Λ : j_L}
theorem v_ialdN (F : Fx X cc own d rt Λ) {a n k0 : Nat} {j : Int32} (hd : decode cc pc = .ok (.iaload, 1)) (ha : j_is Λ a 11 n) (hj : j = nI k0) (hk : k0 < n) (hn : n < 2 ^ 31) (k : V X post (pc + 1) lo (.int (μ.1 a k0) :: st) μ) : V X post pc lo (.int j :: .ref a :: st) μ := by
  subst hj
  refine v_iald F hd ha (vp_in_nI hk hn) ?_
  rw [nI_clamp (by omega)]
  exact k
theorem v_laldN (F : Fx X cc own d rt Λ) {a n k0 : Nat} {j : Int32} (hd : decode cc pc = .ok (.laload, 1)) (ha : j_is Λ a 12 n) (hj : j = nI k0) (hk : k0 < n) (hn : n < 2 ^ 31) (k : V X post (pc + 1) lo (.long (μ.2 a k0) :: st) μ) : V X post pc lo (.int j :: .ref a :: st) μ := by
  subst hj
  refine v_lald F hd ha (vp_in_nI hk hn) ?_
  rw [nI_clamp (by omega)]
  exact k
theorem v_zaldN (F : Fx X cc own d rt Λ) {a n k0 : Nat} {j : Int32} (hd : decode cc pc = .ok (.baload, 1)) (ha : j_is Λ a 13 n) (hj : j = nI k0) (hk : k0 < n) (hn : n < 2 ^ 31) (k : V X post (pc + 1) lo (.int (μ.1 a k0) :: st) μ) : V X post pc lo (.int j :: .ref a :: st) μ := by
  subst hj
  refine v_zald F hd ha (vp_in_nI hk hn) ?_
  rw [nI_clamp (by omega)]
  exact k
theorem v_aald14N (F : Fx X cc own d rt Λ) {a n k0 x : Nat} {j : Int32} (hd : decode cc pc = .ok (.aaload, 1)) (ha : j_is Λ a 14 n) (hj : j = nI k0) (hk : k0 < n) (hn : n < 2 ^ 31) (hx : j_ro 14 a k0 = x) (k : V X post (pc + 1) lo (.ref x :: st) μ) : V X post pc lo (.int j :: .ref a :: st) μ := by
  subst hj
  refine v_aald14 F hd ha (vp_in_nI hk hn) ?_
  rw [nI_clamp (by omega), hx]
  exact k
theorem v_aald15N (F : Fx X cc own d rt Λ) {a n k0 x : Nat} {j : Int32} (hd : decode cc pc = .ok (.aaload, 1)) (ha : j_is Λ a 15 n) (hj : j = nI k0) (hk : k0 < n) (hn : n < 2 ^ 31) (hx : j_ro 15 a k0 = x) (k : V X post (pc + 1) lo (.ref x :: st) μ) : V X post pc lo (.int j :: .ref a :: st) μ := by
  subst hj
  refine v_aald15 F hd ha (vp_in_nI hk hn) ?_
  rw [nI_clamp (by omega), hx]
  exact k
theorem v_iastN (F : Fx X cc own d rt Λ) {a n k0 : Nat} {j : Int32} {x : Int32} (hd : decode cc pc = .ok (.iastore, 1)) (ha : j_is Λ a 11 n) (hj : j = nI k0) (hk : k0 < n) (hn : n < 2 ^ 31) (k : V X post (pc + 1) lo st (j_pI μ a k0 x)) : V X post pc lo (.int x :: .int j :: .ref a :: st) μ := by
  subst hj
  refine v_iast F hd ha (vp_in_nI hk hn) ?_
  rw [nI_clamp (by omega)]
  exact k
theorem v_zastN (F : Fx X cc own d rt Λ) {a n k0 : Nat} {j : Int32} {x : Int32} (hd : decode cc pc = .ok (.bastore, 1)) (ha : j_is Λ a 13 n) (hj : j = nI k0) (hk : k0 < n) (hn : n < 2 ^ 31) (k : V X post (pc + 1) lo st (j_pI μ a k0 (vp_nar .boolean x))) : V X post pc lo (.int x :: .int j :: .ref a :: st) μ := by
  subst hj
  refine v_zast F hd ha (vp_in_nI hk hn) ?_
  rw [nI_clamp (by omega)]
  exact k
theorem v_lastN (F : Fx X cc own d rt Λ) {a n k0 : Nat} {j : Int32} {x : Int64} (hd : decode cc pc = .ok (.lastore, 1)) (ha : j_is Λ a 12 n) (hj : j = nI k0) (hk : k0 < n) (hn : n < 2 ^ 31) (k : V X post (pc + 1) lo st (j_pL μ a k0 x)) : V X post pc lo (.long x :: .int j :: .ref a :: st) μ := by
  subst hj
  refine v_last F hd ha (vp_in_nI hk hn) ?_
  rw [nI_clamp (by omega)]
  exact k
end more
