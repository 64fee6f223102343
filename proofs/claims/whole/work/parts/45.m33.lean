/-! the class: leaves -/

set_option maxRecDepth 100000 in
theorem c_X9_isShelf (v : Int32) (μ : j_M) : Ct yX9_isShelf cX9_isShelf 1 (some .boolean) 0 ΛX [.int v] μ (pI fun r μ2 => r = (b2i (inQ 8 v = true)) ∧ μ2 = μ) := by
  refine Ct.go (lo := [some (.int v)]) (by decide) (Nat.le_of_ble_eq_true rfl) rfl rfl (fun X F => ?_)
  have F : Fx X cX9_isShelf RX9 0 (some .boolean) ΛX := F
  refine v_iload_n (pc := 0) (i := 0) F dX9_isShelf_0 rfl rfl ?_
  refine v_if_lt (pc := 1) (tgt := 14) F dX9_isShelf_1 (by decide) (fun h1_1 => ?_) (fun h1_1 => ?_)
  · skip
    refine v_iconst (pc := 14) (v := nI 0) F dX9_isShelf_14 (by decide) ?_
    refine v_ireturn (pc := 15) F dX9_isShelf_15 (rfl) ?_
    refine ⟨?_, rfl⟩
    rw [b2i_congr (propext inQ_def)]
    simp only [j_n0, j_n1, b2i] at *
    grind
  · skip
    refine v_iload_n (pc := 4) (i := 0) F dX9_isShelf_4 rfl rfl ?_
    refine v_bipush (pc := 5) (v := nI 8) F dX9_isShelf_5 (by decide) ?_
    refine v_icmp_ge (pc := 7) (tgt := 14) F dX9_isShelf_7 (by decide) (fun h7_2 => ?_) (fun h7_2 => ?_)
    · skip
      refine v_iconst (pc := 14) (v := nI 0) F dX9_isShelf_14 (by decide) ?_
      refine v_ireturn (pc := 15) F dX9_isShelf_15 (rfl) ?_
      refine ⟨?_, rfl⟩
      rw [b2i_congr (propext inQ_def)]
      simp only [j_n0, j_n1, b2i] at *
      grind
    · skip
      refine v_iconst (pc := 10) (v := nI 1) F dX9_isShelf_10 (by decide) ?_
      refine v_goto (pc := 11) (tgt := 15) F dX9_isShelf_11 (by decide) ?_
      refine v_ireturn (pc := 15) F dX9_isShelf_15 (rfl) ?_
      refine ⟨?_, rfl⟩
      rw [b2i_congr (propext inQ_def)]
      simp only [j_n0, j_n1, b2i] at *
      grind

set_option maxRecDepth 100000 in
theorem c_X9_isPlace (v : Int32) (μ : j_M) : Ct yX9_isPlace cX9_isPlace 1 (some .boolean) 0 ΛX [.int v] μ (pI fun r μ2 => r = (b2i (inQ 12 v = true)) ∧ μ2 = μ) := by
  refine Ct.go (lo := [some (.int v)]) (by decide) (Nat.le_of_ble_eq_true rfl) rfl rfl (fun X F => ?_)
  have F : Fx X cX9_isPlace RX9 0 (some .boolean) ΛX := F
  refine v_iload_n (pc := 0) (i := 0) F dX9_isPlace_0 rfl rfl ?_
  refine v_if_lt (pc := 1) (tgt := 14) F dX9_isPlace_1 (by decide) (fun h1_1 => ?_) (fun h1_1 => ?_)
  · skip
    refine v_iconst (pc := 14) (v := nI 0) F dX9_isPlace_14 (by decide) ?_
    refine v_ireturn (pc := 15) F dX9_isPlace_15 (rfl) ?_
    refine ⟨?_, rfl⟩
    rw [b2i_congr (propext inQ_def)]
    simp only [j_n0, j_n1, b2i] at *
    grind
  · skip
    refine v_iload_n (pc := 4) (i := 0) F dX9_isPlace_4 rfl rfl ?_
    refine v_bipush (pc := 5) (v := nI 12) F dX9_isPlace_5 (by decide) ?_
    refine v_icmp_ge (pc := 7) (tgt := 14) F dX9_isPlace_7 (by decide) (fun h7_2 => ?_) (fun h7_2 => ?_)
    · skip
      refine v_iconst (pc := 14) (v := nI 0) F dX9_isPlace_14 (by decide) ?_
      refine v_ireturn (pc := 15) F dX9_isPlace_15 (rfl) ?_
      refine ⟨?_, rfl⟩
      rw [b2i_congr (propext inQ_def)]
      simp only [j_n0, j_n1, b2i] at *
      grind
    · skip
      refine v_iconst (pc := 10) (v := nI 1) F dX9_isPlace_10 (by decide) ?_
      refine v_goto (pc := 11) (tgt := 15) F dX9_isPlace_11 (by decide) ?_
      refine v_ireturn (pc := 15) F dX9_isPlace_15 (rfl) ?_
      refine ⟨?_, rfl⟩
      rw [b2i_congr (propext inQ_def)]
      simp only [j_n0, j_n1, b2i] at *
      grind

set_option maxRecDepth 100000 in
theorem c_X9_isSort (v : Int32) (μ : j_M) : Ct yX9_isSort cX9_isSort 1 (some .boolean) 0 ΛX [.int v] μ (pI fun r μ2 => r = (b2i (inQ 8 v = true)) ∧ μ2 = μ) := by
  refine Ct.go (lo := [some (.int v)]) (by decide) (Nat.le_of_ble_eq_true rfl) rfl rfl (fun X F => ?_)
  have F : Fx X cX9_isSort RX9 0 (some .boolean) ΛX := F
  refine v_iload_n (pc := 0) (i := 0) F dX9_isSort_0 rfl rfl ?_
  refine v_if_lt (pc := 1) (tgt := 14) F dX9_isSort_1 (by decide) (fun h1_1 => ?_) (fun h1_1 => ?_)
  · skip
    refine v_iconst (pc := 14) (v := nI 0) F dX9_isSort_14 (by decide) ?_
    refine v_ireturn (pc := 15) F dX9_isSort_15 (rfl) ?_
    refine ⟨?_, rfl⟩
    rw [b2i_congr (propext inQ_def)]
    simp only [j_n0, j_n1, b2i] at *
    grind
  · skip
    refine v_iload_n (pc := 4) (i := 0) F dX9_isSort_4 rfl rfl ?_
    refine v_bipush (pc := 5) (v := nI 8) F dX9_isSort_5 (by decide) ?_
    refine v_icmp_ge (pc := 7) (tgt := 14) F dX9_isSort_7 (by decide) (fun h7_2 => ?_) (fun h7_2 => ?_)
    · skip
      refine v_iconst (pc := 14) (v := nI 0) F dX9_isSort_14 (by decide) ?_
      refine v_ireturn (pc := 15) F dX9_isSort_15 (rfl) ?_
      refine ⟨?_, rfl⟩
      rw [b2i_congr (propext inQ_def)]
      simp only [j_n0, j_n1, b2i] at *
      grind
    · skip
      refine v_iconst (pc := 10) (v := nI 1) F dX9_isSort_10 (by decide) ?_
      refine v_goto (pc := 11) (tgt := 15) F dX9_isSort_11 (by decide) ?_
      refine v_ireturn (pc := 15) F dX9_isSort_15 (rfl) ?_
      refine ⟨?_, rfl⟩
      rw [b2i_congr (propext inQ_def)]
      simp only [j_n0, j_n1, b2i] at *
      grind

set_option maxRecDepth 100000 in
theorem c_X9_isAge (v : Int32) (μ : j_M) : Ct yX9_isAge cX9_isAge 1 (some .boolean) 0 ΛX [.int v] μ (pI fun r μ2 => r = (b2i (inQ 100 v = true)) ∧ μ2 = μ) := by
  refine Ct.go (lo := [some (.int v)]) (by decide) (Nat.le_of_ble_eq_true rfl) rfl rfl (fun X F => ?_)
  have F : Fx X cX9_isAge RX9 0 (some .boolean) ΛX := F
  refine v_iload_n (pc := 0) (i := 0) F dX9_isAge_0 rfl rfl ?_
  refine v_if_lt (pc := 1) (tgt := 14) F dX9_isAge_1 (by decide) (fun h1_1 => ?_) (fun h1_1 => ?_)
  · skip
    refine v_iconst (pc := 14) (v := nI 0) F dX9_isAge_14 (by decide) ?_
    refine v_ireturn (pc := 15) F dX9_isAge_15 (rfl) ?_
    refine ⟨?_, rfl⟩
    rw [← b2i_congr (j_wi (N := 99) rfl (by decide))]
    simp only [j_n0, j_n1, b2i] at *
    grind
  · skip
    refine v_iload_n (pc := 4) (i := 0) F dX9_isAge_4 rfl rfl ?_
    refine v_bipush (pc := 5) (v := nI 99) F dX9_isAge_5 (by decide) ?_
    refine v_icmp_gt (pc := 7) (tgt := 14) F dX9_isAge_7 (by decide) (fun h7_2 => ?_) (fun h7_2 => ?_)
    · skip
      refine v_iconst (pc := 14) (v := nI 0) F dX9_isAge_14 (by decide) ?_
      refine v_ireturn (pc := 15) F dX9_isAge_15 (rfl) ?_
      refine ⟨?_, rfl⟩
      rw [← b2i_congr (j_wi (N := 99) rfl (by decide))]
      simp only [j_n0, j_n1, b2i] at *
      grind
    · skip
      refine v_iconst (pc := 10) (v := nI 1) F dX9_isAge_10 (by decide) ?_
      refine v_goto (pc := 11) (tgt := 15) F dX9_isAge_11 (by decide) ?_
      refine v_ireturn (pc := 15) F dX9_isAge_15 (rfl) ?_
      refine ⟨?_, rfl⟩
      rw [← b2i_congr (j_wi (N := 99) rfl (by decide))]
      simp only [j_n0, j_n1, b2i] at *
      grind

set_option maxRecDepth 100000 in
theorem c_X9_isPlaces (v : Int32) (μ : j_M) : Ct yX9_isPlaces cX9_isPlaces 1 (some .boolean) 0 ΛX [.int v] μ (pI fun r μ2 => r = (b2i (inQ 4096 v = true)) ∧ μ2 = μ) := by
  refine Ct.go (lo := [some (.int v)]) (by decide) (Nat.le_of_ble_eq_true rfl) rfl rfl (fun X F => ?_)
  have F : Fx X cX9_isPlaces RX9 0 (some .boolean) ΛX := F
  refine v_iload_n (pc := 0) (i := 0) F dX9_isPlaces_0 rfl rfl ?_
  refine v_sipush (pc := 1) (v := (-4096)) F dX9_isPlaces_1 (by decide) ?_
  refine v_iand (pc := 4) F dX9_isPlaces_4 ?_
  refine v_topE (y := (v &&& (nI (2 ^ 12 - 1) ^^^ (-1)))) (by rw [show (nI (2 ^ 12 - 1) ^^^ (-1)) = (-4096 : Int32) by decide]) ?_
  refine v_if_ne (pc := 5) (tgt := 12) F dX9_isPlaces_5 (by decide) (fun hz => ?_) (fun hz => ?_)
  · rw [isS_iff (by decide)] at hz
    refine v_iconst (pc := 12) (v := nI 0) F dX9_isPlaces_12 (by decide) ?_
    refine v_ireturn (pc := 13) F dX9_isPlaces_13 (rfl) ?_
    refine ⟨?_, rfl⟩
    first | exact b2i_y hz | exact b2i_n hz | exact b2i_y (Classical.not_not.mp hz)
  · rw [isS_iff (by decide)] at hz
    refine v_iconst (pc := 8) (v := nI 1) F dX9_isPlaces_8 (by decide) ?_
    refine v_goto (pc := 9) (tgt := 13) F dX9_isPlaces_9 (by decide) ?_
    refine v_ireturn (pc := 13) F dX9_isPlaces_13 (rfl) ?_
    refine ⟨?_, rfl⟩
    first | exact b2i_y hz | exact b2i_n hz | exact b2i_y (Classical.not_not.mp hz)

theorem inM_1 {v : Int32} (h : v = -1) : inM v = true := by subst h; decide
theorem inM_2 {v : Int32} (h : inQ 8 v = true) : inM v = true := by unfold inM; rw [h, Bool.or_true]
theorem inM_3 {v : Int32} (h1 : ¬ v = -1) (h2 : ¬ inQ 8 v = true) : ¬ inM v = true := by
  intro h
  unfold inM at h
  rcases (Bool.or_eq_true _ _).mp h with q | q
  · exact h1 (by simpa using q)
  · exact h2 q

set_option maxRecDepth 100000 in
theorem c_X9_isSortOrNone (v : Int32) (μ : j_M) : Ct yX9_isSortOrNone cX9_isSortOrNone 1 (some .boolean) 1 ΛX [.int v] μ (pI fun r μ2 => r = (b2i (inM v = true)) ∧ μ2 = μ) := by
  refine Ct.go (lo := [some (.int v)]) (by decide) (Nat.le_of_ble_eq_true rfl) rfl rfl (fun X F => ?_)
  have F : Fx X cX9_isSortOrNone RX9 1 (some .boolean) ΛX := F
  refine v_iload_n (pc := 0) (i := 0) F dX9_isSortOrNone_0 rfl rfl ?_
  refine v_iconst (pc := 1) (v := (-1)) F dX9_isSortOrNone_1 (by decide) ?_
  refine v_icmp_eq (pc := 2) (tgt := 12) F dX9_isSortOrNone_2 (by decide) (fun h1 => ?_) (fun h1 => ?_)
  · skip
    refine v_iconst (pc := 12) (v := nI 1) F dX9_isSortOrNone_12 (by decide) ?_
    refine v_goto (pc := 13) (tgt := 17) F dX9_isSortOrNone_13 (by decide) ?_
    refine v_ireturn (pc := 17) F dX9_isSortOrNone_17 (rfl) ?_
    refine ⟨?_, rfl⟩
    first | exact b2i_y (inM_1 h1) | exact b2i_y (inM_2 h2) | exact b2i_n (inM_3 h1 h2)
  · skip
    refine v_iload_n (pc := 5) (i := 0) F dX9_isSortOrNone_5 rfl rfl ?_
    refine v_callSI (pc := 6) (As := [_]) (rest := []) F mX9_isSort kX9_168 sm_X9_isSort dX9_isSortOrNone_6 (c_X9_isSort _ _) (by decide) rfl rfl (Nat.le_of_ble_eq_true rfl) (fun x2 μ2 hp2 => ?_)
    rw [hp2.1, hp2.2]
    refine v_if_eq (pc := 9) (tgt := 16) F dX9_isSortOrNone_9 (by decide) (fun h2 => ?_) (fun h2 => ?_)
    · rw [b2i_0] at h2
      refine v_iconst (pc := 16) (v := nI 0) F dX9_isSortOrNone_16 (by decide) ?_
      refine v_ireturn (pc := 17) F dX9_isSortOrNone_17 (rfl) ?_
      refine ⟨?_, rfl⟩
      first | exact b2i_y (inM_1 h1) | exact b2i_y (inM_2 h2) | exact b2i_n (inM_3 h1 h2)
    · rw [b2i_0] at h2
      rw [Classical.not_not] at h2
      refine v_iconst (pc := 12) (v := nI 1) F dX9_isSortOrNone_12 (by decide) ?_
      refine v_goto (pc := 13) (tgt := 17) F dX9_isSortOrNone_13 (by decide) ?_
      refine v_ireturn (pc := 17) F dX9_isSortOrNone_17 (rfl) ?_
      refine ⟨?_, rfl⟩
      first | exact b2i_y (inM_1 h1) | exact b2i_y (inM_2 h2) | exact b2i_n (inM_3 h1 h2)

theorem inB_17 {v : Int32} : (nI 10 ≤ v ∧ v < nI 18) = (inB 10 17 v = true) := by
  rw [propext inB_def]
  refine propext ⟨fun ⟨h1, h2⟩ => ⟨h1, ?_⟩, fun ⟨h1, h2⟩ => ⟨h1, ?_⟩⟩
  · obtain ⟨k, q1, rfl⟩ := nI_of (x := v) (Int32.not_lt.mpr (Int32.le_trans (by decide : (0 : Int32) ≤ nI 10) h1))
    exact (nI_leI q1 (by decide)).mpr (by have := (nI_ltI q1 (by decide)).mp h2; omega)
  · obtain ⟨k, q1, rfl⟩ := nI_of (x := v) (Int32.not_lt.mpr (Int32.le_trans (by decide : (0 : Int32) ≤ nI 10) h1))
    exact (nI_ltI q1 (by decide)).mpr (by have := (nI_leI q1 (by decide)).mp h2; omega)

set_option maxRecDepth 100000 in
theorem c_X9_isHas (v : Int32) (μ : j_M) : Ct yX9_isHas cX9_isHas 1 (some .boolean) 0 ΛX [.int v] μ (pI fun r μ2 => r = (b2i (inB 10 17 v = true)) ∧ μ2 = μ) := by
  refine Ct.go (lo := [some (.int v)]) (by decide) (Nat.le_of_ble_eq_true rfl) rfl rfl (fun X F => ?_)
  have F : Fx X cX9_isHas RX9 0 (some .boolean) ΛX := F
  refine v_iload_n (pc := 0) (i := 0) F dX9_isHas_0 rfl rfl ?_
  refine v_bipush (pc := 1) (v := nI 10) F dX9_isHas_1 (by decide) ?_
  refine v_icmp_lt (pc := 3) (tgt := 16) F dX9_isHas_3 (by decide) (fun h3_1 => ?_) (fun h3_1 => ?_)
  · skip
    refine v_iconst (pc := 16) (v := nI 0) F dX9_isHas_16 (by decide) ?_
    refine v_ireturn (pc := 17) F dX9_isHas_17 (rfl) ?_
    refine ⟨?_, rfl⟩
    rw [← b2i_congr inB_17]
    simp only [j_n0, j_n1, b2i] at *
    grind
  · skip
    refine v_iload_n (pc := 6) (i := 0) F dX9_isHas_6 rfl rfl ?_
    refine v_bipush (pc := 7) (v := nI 18) F dX9_isHas_7 (by decide) ?_
    refine v_icmp_ge (pc := 9) (tgt := 16) F dX9_isHas_9 (by decide) (fun h9_2 => ?_) (fun h9_2 => ?_)
    · skip
      refine v_iconst (pc := 16) (v := nI 0) F dX9_isHas_16 (by decide) ?_
      refine v_ireturn (pc := 17) F dX9_isHas_17 (rfl) ?_
      refine ⟨?_, rfl⟩
      rw [← b2i_congr inB_17]
      simp only [j_n0, j_n1, b2i] at *
      grind
    · skip
      refine v_iconst (pc := 12) (v := nI 1) F dX9_isHas_12 (by decide) ?_
      refine v_goto (pc := 13) (tgt := 17) F dX9_isHas_13 (by decide) ?_
      refine v_ireturn (pc := 17) F dX9_isHas_17 (rfl) ?_
      refine ⟨?_, rfl⟩
      rw [← b2i_congr inB_17]
      simp only [j_n0, j_n1, b2i] at *
      grind

set_option maxRecDepth 100000 in
theorem c_X9_isOfKind (a b : Int32) (μ : j_M) : Ct yX9_isOfKind cX9_isOfKind 2 (some .boolean) 0 ΛX [.int a, .int b] μ (pI fun r μ2 => r = (b2i (uB a b = true)) ∧ μ2 = μ) := by
  refine Ct.go (lo := [some (.int a), some (.int b)]) (by decide) (Nat.le_of_ble_eq_true rfl) rfl rfl (fun X F => ?_)
  have F : Fx X cX9_isOfKind RX9 0 (some .boolean) ΛX := F
  refine v_iload_n (pc := 0) (i := 1) F dX9_isOfKind_0 rfl rfl ?_
  refine v_if_eq (pc := 1) (tgt := 29) F dX9_isOfKind_1 (by decide) (fun h1_1 => ?_) (fun h1_1 => ?_)
  · skip
    refine v_iconst (pc := 29) (v := nI 1) F dX9_isOfKind_29 (by decide) ?_
    refine v_goto (pc := 30) (tgt := 34) F dX9_isOfKind_30 (by decide) ?_
    refine v_ireturn (pc := 34) F dX9_isOfKind_34 (rfl) ?_
    refine ⟨?_, rfl⟩
    rw [← b2i_congr uB_eq]
    simp only [b2i, j_n0, j_n1, j_n2, j_n3, j_n4] at *
    grind
  · skip
    refine v_iload_n (pc := 4) (i := 0) F dX9_isOfKind_4 rfl rfl ?_
    refine v_iload_n (pc := 5) (i := 1) F dX9_isOfKind_5 rfl rfl ?_
    refine v_icmp_eq (pc := 6) (tgt := 29) F dX9_isOfKind_6 (by decide) (fun h6_2 => ?_) (fun h6_2 => ?_)
    · skip
      refine v_iconst (pc := 29) (v := nI 1) F dX9_isOfKind_29 (by decide) ?_
      refine v_goto (pc := 30) (tgt := 34) F dX9_isOfKind_30 (by decide) ?_
      refine v_ireturn (pc := 34) F dX9_isOfKind_34 (rfl) ?_
      refine ⟨?_, rfl⟩
      rw [← b2i_congr uB_eq]
      simp only [b2i, j_n0, j_n1, j_n2, j_n3, j_n4] at *
      grind
    · skip
      refine v_iload_n (pc := 9) (i := 0) F dX9_isOfKind_9 rfl rfl ?_
      refine v_iconst (pc := 10) (v := nI 3) F dX9_isOfKind_10 (by decide) ?_
      refine v_icmp_ne (pc := 11) (tgt := 19) F dX9_isOfKind_11 (by decide) (fun h11_3 => ?_) (fun h11_3 => ?_)
      · skip
        refine v_iload_n (pc := 19) (i := 0) F dX9_isOfKind_19 rfl rfl ?_
        refine v_iconst (pc := 20) (v := nI 4) F dX9_isOfKind_20 (by decide) ?_
        refine v_icmp_ne (pc := 21) (tgt := 33) F dX9_isOfKind_21 (by decide) (fun h21_4 => ?_) (fun h21_4 => ?_)
        · skip
          refine v_iconst (pc := 33) (v := nI 0) F dX9_isOfKind_33 (by decide) ?_
          refine v_ireturn (pc := 34) F dX9_isOfKind_34 (rfl) ?_
          refine ⟨?_, rfl⟩
          rw [← b2i_congr uB_eq]
          simp only [b2i, j_n0, j_n1, j_n2, j_n3, j_n4] at *
          grind
        · skip
          refine v_iload_n (pc := 24) (i := 1) F dX9_isOfKind_24 rfl rfl ?_
          refine v_iconst (pc := 25) (v := nI 2) F dX9_isOfKind_25 (by decide) ?_
          refine v_icmp_ne (pc := 26) (tgt := 33) F dX9_isOfKind_26 (by decide) (fun h26_5 => ?_) (fun h26_5 => ?_)
          · skip
            refine v_iconst (pc := 33) (v := nI 0) F dX9_isOfKind_33 (by decide) ?_
            refine v_ireturn (pc := 34) F dX9_isOfKind_34 (rfl) ?_
            refine ⟨?_, rfl⟩
            rw [← b2i_congr uB_eq]
            simp only [b2i, j_n0, j_n1, j_n2, j_n3, j_n4] at *
            grind
          · skip
            refine v_iconst (pc := 29) (v := nI 1) F dX9_isOfKind_29 (by decide) ?_
            refine v_goto (pc := 30) (tgt := 34) F dX9_isOfKind_30 (by decide) ?_
            refine v_ireturn (pc := 34) F dX9_isOfKind_34 (rfl) ?_
            refine ⟨?_, rfl⟩
            rw [← b2i_congr uB_eq]
            simp only [b2i, j_n0, j_n1, j_n2, j_n3, j_n4] at *
            grind
      · skip
        refine v_iload_n (pc := 14) (i := 1) F dX9_isOfKind_14 rfl rfl ?_
        refine v_iconst (pc := 15) (v := nI 1) F dX9_isOfKind_15 (by decide) ?_
        refine v_icmp_eq (pc := 16) (tgt := 29) F dX9_isOfKind_16 (by decide) (fun h16_6 => ?_) (fun h16_6 => ?_)
        · skip
          refine v_iconst (pc := 29) (v := nI 1) F dX9_isOfKind_29 (by decide) ?_
          refine v_goto (pc := 30) (tgt := 34) F dX9_isOfKind_30 (by decide) ?_
          refine v_ireturn (pc := 34) F dX9_isOfKind_34 (rfl) ?_
          refine ⟨?_, rfl⟩
          rw [← b2i_congr uB_eq]
          simp only [b2i, j_n0, j_n1, j_n2, j_n3, j_n4] at *
          grind
        · skip
          refine v_iload_n (pc := 19) (i := 0) F dX9_isOfKind_19 rfl rfl ?_
          refine v_iconst (pc := 20) (v := nI 4) F dX9_isOfKind_20 (by decide) ?_
          refine v_icmp_ne (pc := 21) (tgt := 33) F dX9_isOfKind_21 (by decide) (fun h21_7 => ?_) (fun h21_7 => ?_)
          · skip
            refine v_iconst (pc := 33) (v := nI 0) F dX9_isOfKind_33 (by decide) ?_
            refine v_ireturn (pc := 34) F dX9_isOfKind_34 (rfl) ?_
            refine ⟨?_, rfl⟩
            rw [← b2i_congr uB_eq]
            simp only [b2i, j_n0, j_n1, j_n2, j_n3, j_n4] at *
            grind
          · skip
            refine v_iload_n (pc := 24) (i := 1) F dX9_isOfKind_24 rfl rfl ?_
            refine v_iconst (pc := 25) (v := nI 2) F dX9_isOfKind_25 (by decide) ?_
            refine v_icmp_ne (pc := 26) (tgt := 33) F dX9_isOfKind_26 (by decide) (fun h26_8 => ?_) (fun h26_8 => ?_)
            · skip
              refine v_iconst (pc := 33) (v := nI 0) F dX9_isOfKind_33 (by decide) ?_
              refine v_ireturn (pc := 34) F dX9_isOfKind_34 (rfl) ?_
              refine ⟨?_, rfl⟩
              rw [← b2i_congr uB_eq]
              simp only [b2i, j_n0, j_n1, j_n2, j_n3, j_n4] at *
              grind
            · skip
              refine v_iconst (pc := 29) (v := nI 1) F dX9_isOfKind_29 (by decide) ?_
              refine v_goto (pc := 30) (tgt := 34) F dX9_isOfKind_30 (by decide) ?_
              refine v_ireturn (pc := 34) F dX9_isOfKind_34 (rfl) ?_
              refine ⟨?_, rfl⟩
              rw [← b2i_congr uB_eq]
              simp only [b2i, j_n0, j_n1, j_n2, j_n3, j_n4] at *
              grind

set_option maxRecDepth 100000 in
theorem c_X9_refuse (c : Int32) (k : Nat) (hk2 : 2 ≤ k) (hk : k ≤ 6) (hc : c = -nI k) (μ : j_M) : Ct yX9_refuse cX9_refuse 2 (some .int) 0 ΛX [.ref 0, .int c] μ (pI fun r μ2 => r = c ∧ μ2 = j_pI μ 120 k (μ.1 120 k + 1)) := by
  refine Ct.go (lo := [some (.ref 0), some (.int c)]) (by decide) (Nat.le_of_ble_eq_true rfl) rfl rfl (fun X F => ?_)
  have F : Fx X cX9_refuse RX9 0 (some .int) ΛX := F
  have hcs : c ≤ -2 ∧ (-6) ≤ c ∧ -c = nI k := by
    have key : ∀ k, k < 7 → 2 ≤ k → (-nI k) ≤ -2 ∧ (-6) ≤ (-nI k) ∧ - (-nI k) = nI k := by decide
    rw [hc]; exact key k (by omega) hk2
  refine v_iload_n (pc := 0) (i := 1) F dX9_refuse_0 rfl rfl ?_
  refine v_bipush (pc := 1) (v := (-2)) F dX9_refuse_1 (by decide) ?_
  refine v_icmp_gt (pc := 3) (tgt := 23) F dX9_refuse_3 (by decide) (fun h3_1 => ?_) (fun h3_1 => ?_)
  · skip
    exact absurd hcs.1 (Int32.not_le.mpr h3_1)
  · skip
    refine v_iload_n (pc := 6) (i := 1) F dX9_refuse_6 rfl rfl ?_
    refine v_bipush (pc := 7) (v := (-6)) F dX9_refuse_7 (by decide) ?_
    refine v_icmp_lt (pc := 9) (tgt := 23) F dX9_refuse_9 (by decide) (fun h9_2 => ?_) (fun h9_2 => ?_)
    · skip
      exact absurd hcs.2.1 (Int32.not_le.mpr h9_2)
    · skip
      refine v_aload_n (pc := 12) (i := 0) F dX9_refuse_12 rfl rfl ?_
      refine v_getR (pc := 13) (o := 120) F fX9_70 dX9_refuse_13 rfl lx0 ?_
      refine v_topR (y := 120) rfl ?_
      refine v_iload_n (pc := 16) (i := 1) F dX9_refuse_16 rfl rfl ?_
      refine v_ineg (pc := 17) F dX9_refuse_17 ?_
      refine v_dup2 (pc := 18) F dX9_refuse_18 rfl rfl ?_
      refine v_ialdN (pc := 19) (k0 := k) F dX9_refuse_19 (lx9_11 lx0) (hcs.2.2) (by omega) (by decide) ?_
      refine v_iconst (pc := 20) (v := nI 1) F dX9_refuse_20 (by decide) ?_
      refine v_iadd (pc := 21) F dX9_refuse_21 ?_
      refine v_iastN (pc := 22) (k0 := k) F dX9_refuse_22 (lx9_11 lx0) (hcs.2.2) (by omega) (by decide) ?_
      refine v_iload_n (pc := 23) (i := 1) F dX9_refuse_23 rfl rfl ?_
      refine v_ireturn (pc := 24) F dX9_refuse_24 (rfl) ?_
      exact ⟨rfl, rfl⟩

set_option maxRecDepth 100000 in
theorem c_X5_isNothing (x : Nat) (hx : j_ob ΛX x 5) (μ : j_M) : Ct yX5_isNothing cX5_isNothing 1 (some .boolean) 0 ΛX [.ref x] μ (pI fun r μ2 => r = (b2i (μ.1 x 1 = -1)) ∧ μ2 = μ) := by
  refine Ct.go (lo := [some (.ref x)]) (by decide) (Nat.le_of_ble_eq_true rfl) rfl rfl (fun X F => ?_)
  have F : Fx X cX5_isNothing RX5 0 (some .boolean) ΛX := F
  refine v_aload_n (pc := 0) (i := 0) F dX5_isNothing_0 rfl rfl ?_
  refine v_getI (pc := 1) F fX5_15 dX5_isNothing_1 rfl hx ?_
  refine v_iconst (pc := 4) (v := (-1)) F dX5_isNothing_4 (by decide) ?_
  refine v_icmp_ne (pc := 5) (tgt := 12) F dX5_isNothing_5 (by decide) (fun h5_1 => ?_) (fun h5_1 => ?_)
  · skip
    refine v_iconst (pc := 12) (v := nI 0) F dX5_isNothing_12 (by decide) ?_
    refine v_ireturn (pc := 13) F dX5_isNothing_13 (rfl) ?_
    refine ⟨?_, rfl⟩
    simp only [b2i, j_n0, j_n1] at *
    grind
  · skip
    refine v_iconst (pc := 8) (v := nI 1) F dX5_isNothing_8 (by decide) ?_
    refine v_goto (pc := 9) (tgt := 13) F dX5_isNothing_9 (by decide) ?_
    refine v_ireturn (pc := 13) F dX5_isNothing_13 (rfl) ?_
    refine ⟨?_, rfl⟩
    simp only [b2i, j_n0, j_n1] at *
    grind

set_option maxRecDepth 100000 in
theorem c_X5_isRow (x : Nat) (hx : j_ob ΛX x 5) (μ : j_M) : Ct yX5_isRow cX5_isRow 1 (some .boolean) 0 ΛX [.ref x] μ (pI fun r μ2 => r = (b2i (inQ 5 (μ.1 x 1) = true)) ∧ μ2 = μ) := by
  refine Ct.go (lo := [some (.ref x)]) (by decide) (Nat.le_of_ble_eq_true rfl) rfl rfl (fun X F => ?_)
  have F : Fx X cX5_isRow RX5 0 (some .boolean) ΛX := F
  refine v_aload_n (pc := 0) (i := 0) F dX5_isRow_0 rfl rfl ?_
  refine v_getI (pc := 1) F fX5_15 dX5_isRow_1 rfl hx ?_
  refine v_if_lt (pc := 4) (tgt := 19) F dX5_isRow_4 (by decide) (fun h4_1 => ?_) (fun h4_1 => ?_)
  · skip
    refine v_iconst (pc := 19) (v := nI 0) F dX5_isRow_19 (by decide) ?_
    refine v_ireturn (pc := 20) F dX5_isRow_20 (rfl) ?_
    refine ⟨?_, rfl⟩
    rw [b2i_congr (propext inQ_def)]
    simp only [j_n0, j_n1, b2i] at *
    grind
  · skip
    refine v_aload_n (pc := 7) (i := 0) F dX5_isRow_7 rfl rfl ?_
    refine v_getI (pc := 8) F fX5_15 dX5_isRow_8 rfl hx ?_
    refine v_iconst (pc := 11) (v := nI 5) F dX5_isRow_11 (by decide) ?_
    refine v_icmp_ge (pc := 12) (tgt := 19) F dX5_isRow_12 (by decide) (fun h12_2 => ?_) (fun h12_2 => ?_)
    · skip
      refine v_iconst (pc := 19) (v := nI 0) F dX5_isRow_19 (by decide) ?_
      refine v_ireturn (pc := 20) F dX5_isRow_20 (rfl) ?_
      refine ⟨?_, rfl⟩
      rw [b2i_congr (propext inQ_def)]
      simp only [j_n0, j_n1, b2i] at *
      grind
    · skip
      refine v_iconst (pc := 15) (v := nI 1) F dX5_isRow_15 (by decide) ?_
      refine v_goto (pc := 16) (tgt := 20) F dX5_isRow_16 (by decide) ?_
      refine v_ireturn (pc := 20) F dX5_isRow_20 (rfl) ?_
      refine ⟨?_, rfl⟩
      rw [b2i_congr (propext inQ_def)]
      simp only [j_n0, j_n1, b2i] at *
      grind

set_option maxRecDepth 100000 in
theorem c_X5_isLooker (x : Nat) (hx : j_ob ΛX x 5) (μ : j_M) : Ct yX5_isLooker cX5_isLooker 1 (some .boolean) 0 ΛX [.ref x] μ (pI fun r μ2 => r = (b2i (nI 10 ≤ μ.1 x 1)) ∧ μ2 = μ) := by
  refine Ct.go (lo := [some (.ref x)]) (by decide) (Nat.le_of_ble_eq_true rfl) rfl rfl (fun X F => ?_)
  have F : Fx X cX5_isLooker RX5 0 (some .boolean) ΛX := F
  refine v_aload_n (pc := 0) (i := 0) F dX5_isLooker_0 rfl rfl ?_
  refine v_getI (pc := 1) F fX5_15 dX5_isLooker_1 rfl hx ?_
  refine v_bipush (pc := 4) (v := nI 10) F dX5_isLooker_4 (by decide) ?_
  refine v_icmp_lt (pc := 6) (tgt := 13) F dX5_isLooker_6 (by decide) (fun h6_1 => ?_) (fun h6_1 => ?_)
  · skip
    refine v_iconst (pc := 13) (v := nI 0) F dX5_isLooker_13 (by decide) ?_
    refine v_ireturn (pc := 14) F dX5_isLooker_14 (rfl) ?_
    refine ⟨?_, rfl⟩
    simp only [b2i, j_n0, j_n1] at *
    grind
  · skip
    refine v_iconst (pc := 9) (v := nI 1) F dX5_isLooker_9 (by decide) ?_
    refine v_goto (pc := 10) (tgt := 14) F dX5_isLooker_10 (by decide) ?_
    refine v_ireturn (pc := 14) F dX5_isLooker_14 (rfl) ?_
    refine ⟨?_, rfl⟩
    simp only [b2i, j_n0, j_n1] at *
    grind

set_option maxRecDepth 100000 in
theorem c_X5_holdNothing (x : Nat) (hx : j_ob ΛX x 5) (μ : j_M) : Ct yX5_holdNothing cX5_holdNothing 1 none 0 ΛX [.ref x] μ (pV fun μ2 => μ2 = j_pI (j_pI μ x 1 (-1)) x 2 (nI 0)) := by
  refine Ct.go (lo := [some (.ref x)]) (by decide) (Nat.le_of_ble_eq_true rfl) rfl rfl (fun X F => ?_)
  have F : Fx X cX5_holdNothing RX5 0 none ΛX := F
  refine v_aload_n (pc := 0) (i := 0) F dX5_holdNothing_0 rfl rfl ?_
  refine v_iconst (pc := 1) (v := (-1)) F dX5_holdNothing_1 (by decide) ?_
  refine v_put (pc := 2) F fX5_15 dX5_holdNothing_2 rfl rfl rfl hx ?_
  refine v_aload_n (pc := 5) (i := 0) F dX5_holdNothing_5 rfl rfl ?_
  refine v_iconst (pc := 6) (v := nI 0) F dX5_holdNothing_6 (by decide) ?_
  refine v_put (pc := 7) F fX5_19 dX5_holdNothing_7 rfl rfl rfl hx ?_
  refine v_return (pc := 10) F dX5_holdNothing_10 ?_
  rfl

set_option maxRecDepth 100000 in
theorem c_X5_holdLooker (x : Nat) (hx : j_ob ΛX x 5) (l : Nat) (μ : j_M) : Ct yX5_holdLooker cX5_holdLooker 2 none 0 ΛX [.ref x, .int (nI l)] μ (pV fun μ2 => μ2 = j_pI (j_pI μ x 1 (nI (10 + l))) x 2 (nI 0)) := by
  refine Ct.go (lo := [some (.ref x), some (.int (nI l))]) (by decide) (Nat.le_of_ble_eq_true rfl) rfl rfl (fun X F => ?_)
  have F : Fx X cX5_holdLooker RX5 0 none ΛX := F
  refine v_aload_n (pc := 0) (i := 0) F dX5_holdLooker_0 rfl rfl ?_
  refine v_bipush (pc := 1) (v := nI 10) F dX5_holdLooker_1 (by decide) ?_
  refine v_iload_n (pc := 3) (i := 1) F dX5_holdLooker_3 rfl rfl ?_
  refine v_iadd (pc := 4) F dX5_holdLooker_4 ?_
  refine v_topE (nI_add _ _) ?_
  refine v_put (pc := 5) F fX5_15 dX5_holdLooker_5 rfl rfl rfl hx ?_
  refine v_aload_n (pc := 8) (i := 0) F dX5_holdLooker_8 rfl rfl ?_
  refine v_iconst (pc := 9) (v := nI 0) F dX5_holdLooker_9 (by decide) ?_
  refine v_put (pc := 10) F fX5_19 dX5_holdLooker_10 rfl rfl rfl hx ?_
  refine v_return (pc := 13) F dX5_holdLooker_13 ?_
  rfl

set_option maxRecDepth 100000 in
theorem c_X5_holdRow (x : Nat) (hx : j_ob ΛX x 5) (so n : Int32) (μ : j_M) : Ct yX5_holdRow cX5_holdRow 3 none 1 ΛX [.ref x, .int so, .int n] μ (pV fun μ2 => μ2 = flJ (j_pI (j_pI μ x 1 so) x 2 n) (x + 1) 40 0) := by
  refine Ct.go (lo := [some (.ref x), some (.int so), some (.int n)]) (by decide) (Nat.le_of_ble_eq_true rfl) rfl rfl (fun X F => ?_)
  have F : Fx X cX5_holdRow RX5 1 none ΛX := F
  refine v_aload_n (pc := 0) (i := 0) F dX5_holdRow_0 rfl rfl ?_
  refine v_iload_n (pc := 1) (i := 1) F dX5_holdRow_1 rfl rfl ?_
  refine v_put (pc := 2) F fX5_15 dX5_holdRow_2 rfl rfl rfl hx ?_
  refine v_aload_n (pc := 5) (i := 0) F dX5_holdRow_5 rfl rfl ?_
  refine v_iload_n (pc := 6) (i := 2) F dX5_holdRow_6 rfl rfl ?_
  refine v_put (pc := 7) F fX5_19 dX5_holdRow_7 rfl rfl rfl hx ?_
  refine v_aload_n (pc := 10) (i := 0) F dX5_holdRow_10 rfl rfl ?_
  refine v_getR (pc := 11) (o := 1) F fX5_9 dX5_holdRow_11 rfl hx ?_
  refine v_topR (y := x + 1) rfl ?_
  refine v_lconst (pc := 14) (v := 0) F dX5_holdRow_14 (by decide) ?_
  refine v_callSV (pc := 15) (As := [_, _]) (rest := []) F mJ7_fill_d0a16 kX5_22 sm_J7_fill_d0a16 dX5_holdRow_15 (c_J7_fillJ _ _ 40 (lx5_0 hx) (by decide) _ _) (by decide) rfl rfl (Nat.le_of_ble_eq_true rfl) (fun μ1 hp1 => ?_)
  rw [hp1]
  refine v_return (pc := 18) F dX5_holdRow_18 ?_
  rfl

set_option maxRecDepth 100000 in
theorem c_X5_hasRun (x : Nat) (hx : j_ob ΛX x 5) (i n : Int32) (μ : j_M) : Ct yX5_hasRun cX5_hasRun 3 (some .boolean) 0 ΛX [.ref x, .int i, .int n] μ (pI fun r μ2 => r = (b2i (0 ≤ i ∧ 0 ≤ n ∧ i ≤ μ.1 x 2 ∧ n ≤ μ.1 x 2 - i)) ∧ μ2 = μ) := by
  refine Ct.go (lo := [some (.ref x), some (.int i), some (.int n)]) (by decide) (Nat.le_of_ble_eq_true rfl) rfl rfl (fun X F => ?_)
  have F : Fx X cX5_hasRun RX5 0 (some .boolean) ΛX := F
  refine v_iload_n (pc := 0) (i := 1) F dX5_hasRun_0 rfl rfl ?_
  refine v_if_lt (pc := 1) (tgt := 30) F dX5_hasRun_1 (by decide) (fun h1_1 => ?_) (fun h1_1 => ?_)
  · skip
    refine v_iconst (pc := 30) (v := nI 0) F dX5_hasRun_30 (by decide) ?_
    refine v_ireturn (pc := 31) F dX5_hasRun_31 (rfl) ?_
    refine ⟨?_, rfl⟩
    simp only [b2i, j_n0, j_n1] at *
    grind
  · skip
    refine v_iload_n (pc := 4) (i := 2) F dX5_hasRun_4 rfl rfl ?_
    refine v_if_lt (pc := 5) (tgt := 30) F dX5_hasRun_5 (by decide) (fun h5_2 => ?_) (fun h5_2 => ?_)
    · skip
      refine v_iconst (pc := 30) (v := nI 0) F dX5_hasRun_30 (by decide) ?_
      refine v_ireturn (pc := 31) F dX5_hasRun_31 (rfl) ?_
      refine ⟨?_, rfl⟩
      simp only [b2i, j_n0, j_n1] at *
      grind
    · skip
      refine v_iload_n (pc := 8) (i := 1) F dX5_hasRun_8 rfl rfl ?_
      refine v_aload_n (pc := 9) (i := 0) F dX5_hasRun_9 rfl rfl ?_
      refine v_getI (pc := 10) F fX5_19 dX5_hasRun_10 rfl hx ?_
      refine v_icmp_gt (pc := 13) (tgt := 30) F dX5_hasRun_13 (by decide) (fun h13_3 => ?_) (fun h13_3 => ?_)
      · skip
        refine v_iconst (pc := 30) (v := nI 0) F dX5_hasRun_30 (by decide) ?_
        refine v_ireturn (pc := 31) F dX5_hasRun_31 (rfl) ?_
        refine ⟨?_, rfl⟩
        simp only [b2i, j_n0, j_n1] at *
        grind
      · skip
        refine v_iload_n (pc := 16) (i := 2) F dX5_hasRun_16 rfl rfl ?_
        refine v_aload_n (pc := 17) (i := 0) F dX5_hasRun_17 rfl rfl ?_
        refine v_getI (pc := 18) F fX5_19 dX5_hasRun_18 rfl hx ?_
        refine v_iload_n (pc := 21) (i := 1) F dX5_hasRun_21 rfl rfl ?_
        refine v_isub (pc := 22) F dX5_hasRun_22 ?_
        refine v_icmp_gt (pc := 23) (tgt := 30) F dX5_hasRun_23 (by decide) (fun h23_4 => ?_) (fun h23_4 => ?_)
        · skip
          refine v_iconst (pc := 30) (v := nI 0) F dX5_hasRun_30 (by decide) ?_
          refine v_ireturn (pc := 31) F dX5_hasRun_31 (rfl) ?_
          refine ⟨?_, rfl⟩
          simp only [b2i, j_n0, j_n1] at *
          grind
        · skip
          refine v_iconst (pc := 26) (v := nI 1) F dX5_hasRun_26 (by decide) ?_
          refine v_goto (pc := 27) (tgt := 31) F dX5_hasRun_27 (by decide) ?_
          refine v_ireturn (pc := 31) F dX5_hasRun_31 (rfl) ?_
          refine ⟨?_, rfl⟩
          simp only [b2i, j_n0, j_n1] at *
          grind

def elB (μ : j_M) (x : Nat) (i : Int32) : Int64 := if inQ 5 (μ.1 x 1) = true then (if inQ (ix (μ.1 x 2)) i = true then μ.2 (x + 1) (ix i) else 0) else 0

set_option maxRecDepth 100000 in
theorem c_X5_elementAt (x : Nat) (hx : j_ob ΛX x 5) (i : Int32) (μ : j_M) (hsz : inQ 5 (μ.1 x 1) = true → ∃ m, m ≤ 40 ∧ μ.1 x 2 = nI m) : Ct yX5_elementAt cX5_elementAt 2 (some .long) 1 ΛX [.ref x, .int i] μ (pJ fun r μ2 => r = elB μ x i ∧ μ2 = μ) := by
  refine Ct.go (lo := [some (.ref x), some (.int i)]) (by decide) (Nat.le_of_ble_eq_true rfl) rfl rfl (fun X F => ?_)
  have F : Fx X cX5_elementAt RX5 1 (some .long) ΛX := F
  refine v_aload_n (pc := 0) (i := 0) F dX5_elementAt_0 rfl rfl ?_
  refine v_callVI (pc := 1) (As := []) (rest := []) (c := 5) F mX5_isRow kX5_28 im_X5_isRow se_X5_isRow dX5_elementAt_1 rfl rfl (by decide) (c_X5_isRow _ hx _) (by decide) rfl rfl (Nat.le_of_ble_eq_true rfl) hx (fun x1 μ1 hp1 => ?_)
  rw [hp1.1, hp1.2]
  refine v_if_eq (pc := 4) (tgt := 28) F dX5_elementAt_4 (by decide) (fun hr => ?_) (fun hr => ?_)
  · rw [b2i_0] at hr
    refine v_lconst (pc := 28) (v := 0) F dX5_elementAt_28 (by decide) ?_
    refine v_lreturn (pc := 29) F dX5_elementAt_29 ?_
    refine ⟨?_, rfl⟩
    unfold elB
    rw [if_neg hr]
  · rw [b2i_0] at hr
    rw [Classical.not_not] at hr
    obtain ⟨m, hm, hme⟩ := hsz hr
    have ekm : ix (μ.1 x 2) = m := by rw [hme]; exact ix_nI (by omega)
    refine v_iload_n (pc := 7) (i := 1) F dX5_elementAt_7 rfl rfl ?_
    refine v_if_lt (pc := 8) (tgt := 28) F dX5_elementAt_8 (by decide) (fun hp => ?_) (fun hp => ?_)
    · skip
      refine v_lconst (pc := 28) (v := 0) F dX5_elementAt_28 (by decide) ?_
      refine v_lreturn (pc := 29) F dX5_elementAt_29 ?_
      refine ⟨?_, rfl⟩
      unfold elB
      rw [if_pos hr, ekm, if_neg (fun z => absurd (inQ_def.mp z).1 (Int32.not_le.mpr hp))]
    · skip
      obtain ⟨ki, hki, hie⟩ := nI_of hp
      subst hie
      refine v_iload_n (pc := 11) (i := 1) F dX5_elementAt_11 rfl rfl ?_
      refine v_aload_n (pc := 12) (i := 0) F dX5_elementAt_12 rfl rfl ?_
      refine v_getI (pc := 13) F fX5_19 dX5_elementAt_13 rfl hx ?_
      refine v_topE (y := nI m) (hme) ?_
      refine v_icmp_ge (pc := 16) (tgt := 28) F dX5_elementAt_16 (by decide) (fun hlt => ?_) (fun hlt => ?_)
      · rw [nI_leI (by omega) (by omega)] at hlt
        refine v_lconst (pc := 28) (v := 0) F dX5_elementAt_28 (by decide) ?_
        refine v_lreturn (pc := 29) F dX5_elementAt_29 ?_
        refine ⟨?_, rfl⟩
        unfold elB
        rw [if_pos hr, ekm, if_neg (fun z => absurd ((nI_ltI (by omega) (by omega)).mp (inQ_def.mp z).2) (by omega))]
      · rw [nI_leI (by omega) (by omega)] at hlt
        refine v_aload_n (pc := 19) (i := 0) F dX5_elementAt_19 rfl rfl ?_
        refine v_getR (pc := 20) (o := 1) F fX5_9 dX5_elementAt_20 rfl hx ?_
        refine v_topR (y := x + 1) rfl ?_
        refine v_iload_n (pc := 23) (i := 1) F dX5_elementAt_23 rfl rfl ?_
        refine v_laldN (pc := 24) (k0 := ki) F dX5_elementAt_24 (lx5_0 hx) (rfl) (by omega) (by decide) ?_
        refine v_goto (pc := 25) (tgt := 29) F dX5_elementAt_25 (by decide) ?_
        refine v_lreturn (pc := 29) F dX5_elementAt_29 ?_
        refine ⟨?_, rfl⟩
        unfold elB
        rw [if_pos hr, ekm, if_pos ((inR_iff (by omega)).mpr ⟨ki, by omega, rfl⟩), ix_nI (by omega)]

theorem j_sw04 {x : Int32} {j : Nat} (hj : j < 5) (hx : x = nI j) (h0 : ¬ x = 0) (h1 : ¬ x = 1) (h2 : ¬ x = 2) (h4 : ¬ x = 4) : x = 3 := by
  subst hx
  have : ∀ j, j < 5 → ¬ nI j = 0 → ¬ nI j = 1 → ¬ nI j = 2 → ¬ nI j = 4 → nI j = 3 := by decide
  exact this j hj h0 h1 h2 h4

set_option maxRecDepth 100000 in
theorem c_X5_lowestBits (x : Nat) (hx : j_ob ΛX x 5) (v : Int64) (μ : j_M) (j5 : Nat) (hj5 : j5 < 5) (he5 : μ.1 x 1 = nI j5) : Ct yX5_lowestBits cX5_lowestBits 3 (some .long) 0 ΛX [.ref x, .long v] μ (pJ fun r μ2 => r = keptJ (μ.1 x 1) v ∧ μ2 = μ) := by
  refine Ct.go (lo := [some (.ref x), some (.long v), none]) (by decide) (Nat.le_of_ble_eq_true rfl) rfl rfl (fun X F => ?_)
  have F : Fx X cX5_lowestBits RX5 0 (some .long) ΛX := F
  refine v_aload_n (pc := 0) (i := 0) F dX5_lowestBits_0 rfl rfl ?_
  refine v_getI (pc := 1) F fX5_15 dX5_lowestBits_1 rfl hx ?_
  by_cases hs0 : (μ.1 x 1) = 0
  · refine v_tin (pc := 4) (tgt := 40) F dX5_lowestBits_4 (by rw [hs0]; decide) (by rw [hs0]; decide) (by rw [hs0]; rfl) (by decide) ?_
    refine v_lload_n (pc := 40) (i := 1) F dX5_lowestBits_40 rfl rfl ?_
    refine v_l2i (pc := 41) F dX5_lowestBits_41 ?_
    refine v_i2b (pc := 42) F dX5_lowestBits_42 ?_
    refine v_i2l (pc := 43) F dX5_lowestBits_43 ?_
    refine v_lreturn (pc := 44) F dX5_lowestBits_44 ?_
    refine ⟨?_, rfl⟩
    unfold keptJ
    first | (rw [if_pos hs0]; done) | (rw [if_neg hs0, if_pos hs1]; done) | (rw [if_neg hs0, if_neg hs1, if_pos hs2]; done) | (rw [if_neg hs0, if_neg hs1, if_neg hs2, if_pos hs3]; done) | (rw [if_neg hs0, if_neg hs1, if_neg hs2, if_neg hs3, if_pos hv]; done) | (rw [if_neg hs0, if_neg hs1, if_neg hs2, if_neg hs3, if_neg hv]; done) | exact absurd (j_sw04 hj5 he5 hs0 hs1 hs2 hs4) hs3
  by_cases hs1 : (μ.1 x 1) = 1
  · refine v_tin (pc := 4) (tgt := 45) F dX5_lowestBits_4 (by rw [hs1]; decide) (by rw [hs1]; decide) (by rw [hs1]; rfl) (by decide) ?_
    refine v_lload_n (pc := 45) (i := 1) F dX5_lowestBits_45 rfl rfl ?_
    refine v_l2i (pc := 46) F dX5_lowestBits_46 ?_
    refine v_i2s (pc := 47) F dX5_lowestBits_47 ?_
    refine v_i2l (pc := 48) F dX5_lowestBits_48 ?_
    refine v_lreturn (pc := 49) F dX5_lowestBits_49 ?_
    refine ⟨?_, rfl⟩
    unfold keptJ
    first | (rw [if_pos hs0]; done) | (rw [if_neg hs0, if_pos hs1]; done) | (rw [if_neg hs0, if_neg hs1, if_pos hs2]; done) | (rw [if_neg hs0, if_neg hs1, if_neg hs2, if_pos hs3]; done) | (rw [if_neg hs0, if_neg hs1, if_neg hs2, if_neg hs3, if_pos hv]; done) | (rw [if_neg hs0, if_neg hs1, if_neg hs2, if_neg hs3, if_neg hv]; done) | exact absurd (j_sw04 hj5 he5 hs0 hs1 hs2 hs4) hs3
  by_cases hs2 : (μ.1 x 1) = 2
  · refine v_tin (pc := 4) (tgt := 50) F dX5_lowestBits_4 (by rw [hs2]; decide) (by rw [hs2]; decide) (by rw [hs2]; rfl) (by decide) ?_
    refine v_lload_n (pc := 50) (i := 1) F dX5_lowestBits_50 rfl rfl ?_
    refine v_l2i (pc := 51) F dX5_lowestBits_51 ?_
    refine v_i2l (pc := 52) F dX5_lowestBits_52 ?_
    refine v_lreturn (pc := 53) F dX5_lowestBits_53 ?_
    refine ⟨?_, rfl⟩
    unfold keptJ
    first | (rw [if_pos hs0]; done) | (rw [if_neg hs0, if_pos hs1]; done) | (rw [if_neg hs0, if_neg hs1, if_pos hs2]; done) | (rw [if_neg hs0, if_neg hs1, if_neg hs2, if_pos hs3]; done) | (rw [if_neg hs0, if_neg hs1, if_neg hs2, if_neg hs3, if_pos hv]; done) | (rw [if_neg hs0, if_neg hs1, if_neg hs2, if_neg hs3, if_neg hv]; done) | exact absurd (j_sw04 hj5 he5 hs0 hs1 hs2 hs4) hs3
  by_cases hs3 : (μ.1 x 1) = 3
  · refine v_tin (pc := 4) (tgt := 66) F dX5_lowestBits_4 (by rw [hs3]; decide) (by rw [hs3]; decide) (by rw [hs3]; rfl) (by decide) ?_
    refine v_lload_n (pc := 66) (i := 1) F dX5_lowestBits_66 rfl rfl ?_
    refine v_lreturn (pc := 67) F dX5_lowestBits_67 ?_
    refine ⟨?_, rfl⟩
    unfold keptJ
    first | (rw [if_pos hs0]; done) | (rw [if_neg hs0, if_pos hs1]; done) | (rw [if_neg hs0, if_neg hs1, if_pos hs2]; done) | (rw [if_neg hs0, if_neg hs1, if_neg hs2, if_pos hs3]; done) | (rw [if_neg hs0, if_neg hs1, if_neg hs2, if_neg hs3, if_pos hv]; done) | (rw [if_neg hs0, if_neg hs1, if_neg hs2, if_neg hs3, if_neg hv]; done) | exact absurd (j_sw04 hj5 he5 hs0 hs1 hs2 hs4) hs3
  by_cases hs4 : (μ.1 x 1) = 4
  · refine v_tin (pc := 4) (tgt := 54) F dX5_lowestBits_4 (by rw [hs4]; decide) (by rw [hs4]; decide) (by rw [hs4]; rfl) (by decide) ?_
    refine v_lload_n (pc := 54) (i := 1) F dX5_lowestBits_54 rfl rfl ?_
    refine v_lconst (pc := 55) (v := 0) F dX5_lowestBits_55 (by decide) ?_
    refine v_lcmp (pc := 56) F dX5_lowestBits_56 ?_
    refine v_if_eq (pc := 57) (tgt := 64) F dX5_lowestBits_57 (by decide) (fun hv => ?_) (fun hv => ?_)
    · rw [lg_cmp_eq] at hv
      refine v_lconst (pc := 64) (v := 0) F dX5_lowestBits_64 (by decide) ?_
      refine v_lreturn (pc := 65) F dX5_lowestBits_65 ?_
      refine ⟨?_, rfl⟩
      unfold keptJ
      first | (rw [if_pos hs0]; done) | (rw [if_neg hs0, if_pos hs1]; done) | (rw [if_neg hs0, if_neg hs1, if_pos hs2]; done) | (rw [if_neg hs0, if_neg hs1, if_neg hs2, if_pos hs3]; done) | (rw [if_neg hs0, if_neg hs1, if_neg hs2, if_neg hs3, if_pos hv]; done) | (rw [if_neg hs0, if_neg hs1, if_neg hs2, if_neg hs3, if_neg hv]; done) | exact absurd (j_sw04 hj5 he5 hs0 hs1 hs2 hs4) hs3
    · rw [lg_cmp_eq] at hv
      refine v_lconst (pc := 60) (v := 1) F dX5_lowestBits_60 (by decide) ?_
      refine v_goto (pc := 61) (tgt := 65) F dX5_lowestBits_61 (by decide) ?_
      refine v_lreturn (pc := 65) F dX5_lowestBits_65 ?_
      refine ⟨?_, rfl⟩
      unfold keptJ
      first | (rw [if_pos hs0]; done) | (rw [if_neg hs0, if_pos hs1]; done) | (rw [if_neg hs0, if_neg hs1, if_pos hs2]; done) | (rw [if_neg hs0, if_neg hs1, if_neg hs2, if_pos hs3]; done) | (rw [if_neg hs0, if_neg hs1, if_neg hs2, if_neg hs3, if_pos hv]; done) | (rw [if_neg hs0, if_neg hs1, if_neg hs2, if_neg hs3, if_neg hv]; done) | exact absurd (j_sw04 hj5 he5 hs0 hs1 hs2 hs4) hs3
  refine v_tout (pc := 4) (tgt := 66) F dX5_lowestBits_4 ((hs3 (j_sw04 hj5 he5 hs0 hs1 hs2 hs4)).elim) (by decide) ?_
  refine v_lload_n (pc := 66) (i := 1) F dX5_lowestBits_66 rfl rfl ?_
  refine v_lreturn (pc := 67) F dX5_lowestBits_67 ?_
  refine ⟨?_, rfl⟩
  unfold keptJ
  first | (rw [if_pos hs0]; done) | (rw [if_neg hs0, if_pos hs1]; done) | (rw [if_neg hs0, if_neg hs1, if_pos hs2]; done) | (rw [if_neg hs0, if_neg hs1, if_neg hs2, if_pos hs3]; done) | (rw [if_neg hs0, if_neg hs1, if_neg hs2, if_neg hs3, if_pos hv]; done) | (rw [if_neg hs0, if_neg hs1, if_neg hs2, if_neg hs3, if_neg hv]; done) | exact absurd (j_sw04 hj5 he5 hs0 hs1 hs2 hs4) hs3

set_option maxRecDepth 100000 in
theorem c_X5_put (x : Nat) (hx : j_ob ΛX x 5) (k : Nat) (hk : k < 40) (v : Int64) (μ : j_M) (j5 : Nat) (hj5 : j5 < 5) (he5 : μ.1 x 1 = nI j5) : Ct yX5_put cX5_put 4 none 1 ΛX [.ref x, .int (nI k), .long v] μ (pV fun μ2 => μ2 = j_pL μ (x + 1) k (keptJ (μ.1 x 1) v)) := by
  refine Ct.go (lo := [some (.ref x), some (.int (nI k)), some (.long v), none]) (by decide) (Nat.le_of_ble_eq_true rfl) rfl rfl (fun X F => ?_)
  have F : Fx X cX5_put RX5 1 none ΛX := F
  refine v_aload_n (pc := 0) (i := 0) F dX5_put_0 rfl rfl ?_
  refine v_getR (pc := 1) (o := 1) F fX5_9 dX5_put_1 rfl hx ?_
  refine v_topR (y := x + 1) rfl ?_
  refine v_iload_n (pc := 4) (i := 1) F dX5_put_4 rfl rfl ?_
  refine v_aload_n (pc := 5) (i := 0) F dX5_put_5 rfl rfl ?_
  refine v_lload_n (pc := 6) (i := 2) F dX5_put_6 rfl rfl ?_
  refine v_callVJ (pc := 7) (As := [_]) (rest := [_, _]) (c := 5) F mX5_lowestBits kX5_32 im_X5_lowestBits se_X5_lowestBits dX5_put_7 rfl rfl (by decide) (c_X5_lowestBits _ hx _ _ j5 hj5 he5) (by decide) rfl rfl (Nat.le_of_ble_eq_true rfl) hx (fun x1 μ1 hp1 => ?_)
  rw [hp1.1, hp1.2]
  refine v_lastN (pc := 10) (k0 := k) F dX5_put_10 (lx5_0 hx) (rfl) (by omega) (by decide) ?_
  refine v_return (pc := 11) F dX5_put_11 ?_
  rfl
