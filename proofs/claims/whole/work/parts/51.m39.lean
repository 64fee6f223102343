/-! the class: counts and firsts -/
theorem inQ_out {N : Nat} {v : Int32} (hN : N < 2 ^ 31) (h : ¬ inQ N v = true) : v.toInt < 0 ∨ (N : Int) ≤ v.toInt := by
  by_cases h0 : v < 0
  · refine Or.inl ?_
    have := Int32.lt_iff_toInt_lt.mp h0
    simpa using this
  · obtain ⟨k, h1, rfl⟩ := nI_of h0
    refine Or.inr ?_
    rw [nI_toInt h1]
    have : ¬ k < N := fun z => h ((inR_iff hN).mpr ⟨k, z, rfl⟩)
    omega
theorem inQ_c2 (v : Int32) : v = nI 0 ∨ v = nI 1 ∨ ¬ inQ 2 v = true := by
  by_cases h : inQ 2 v = true
  · obtain ⟨k, h1, rfl⟩ := inR_of (by decide) h
    obtain rfl | rfl : k = 0 ∨ k = 1 := by omega
    all_goals simp
  · simp [h]
theorem inQ_c3 (v : Int32) : v = nI 0 ∨ v = nI 1 ∨ v = nI 2 ∨ ¬ inQ 3 v = true := by
  by_cases h : inQ 3 v = true
  · obtain ⟨k, h1, rfl⟩ := inR_of (by decide) h
    obtain rfl | rfl | rfl : k = 0 ∨ k = 1 ∨ k = 2 := by omega
    all_goals simp
  · simp [h]
theorem inQ_c4 (v : Int32) : v = nI 0 ∨ v = nI 1 ∨ v = nI 2 ∨ v = nI 3 ∨ ¬ inQ 4 v = true := by
  by_cases h : inQ 4 v = true
  · obtain ⟨k, h1, rfl⟩ := inR_of (by decide) h
    obtain rfl | rfl | rfl | rfl : k = 0 ∨ k = 1 ∨ k = 2 ∨ k = 3 := by omega
    all_goals simp
  · simp [h]
theorem inQ_c8 (v : Int32) : v = nI 0 ∨ v = nI 1 ∨ v = nI 2 ∨ v = nI 3 ∨ v = nI 4 ∨ v = nI 5 ∨ v = nI 6 ∨ v = nI 7 ∨ ¬ inQ 8 v = true := by
  by_cases h : inQ 8 v = true
  · obtain ⟨k, h1, rfl⟩ := inR_of (by decide) h
    obtain rfl | rfl | rfl | rfl | rfl | rfl | rfl | rfl : k = 0 ∨ k = 1 ∨ k = 2 ∨ k = 3 ∨ k = 4 ∨ k = 5 ∨ k = 6 ∨ k = 7 := by omega
    all_goals simp
  · simp [h]

set_option maxRecDepth 100000 in
theorem c_X9_glad (set what : Int32) (μ ν : j_M) (hM : MI ν) (hR : Rel μ ν) : Ct yX9_glad cX9_glad 3 (some .int) 5 ΛX [.ref 0, .int set, .int what] μ (pI fun r μ2 => r = (s_glad set what ν).1 ∧ Rel μ2 (s_glad set what ν).2) := by
  refine Ct.go (lo := [some (.ref 0), some (.int set), some (.int what)]) (by decide) (Nat.le_of_ble_eq_true rfl) rfl rfl (fun X F => ?_)
  have F : Fx X cX9_glad RX9 5 (some .int) ΛX := F
  obtain ⟨n, hW, hsh, htp, him⟩ := id hM
  have hn := hW.1
  have hn8 := hW.2.1
  have hnn := nn_eq hn hn8
  have ho := hW.own
  have hpw := j_pw hn8
  have hS : SQ μ 1 ν.1 n := ⟨by have := hR.sc; rwa [hnn] at this, hn8⟩
  rcases inQ_c2 what with rfl | rfl | hqw
  · skip
    have hqw : inQ 2 (nI 0) = true := by decide
    have hix : ix (nI 0) = 0 := by decide
    have hc0 : (nI 0 = 0) = True := eq_true (by decide)
    refine v_aload_n (pc := 0) (i := 0) F dX9_glad_0 rfl rfl ?_
    refine v_iload_n (pc := 1) (i := 1) F dX9_glad_1 rfl rfl ?_
    refine v_callVI (pc := 2) (As := [_]) (rest := []) (c := 9) F mX9_isSet kX9_257 im_X9_isSet se_X9_isSet dX9_glad_2 rfl rfl (by decide) (c_X9_isSet _ n ν.1 _ (hS)) (by decide) rfl rfl (Nat.le_of_ble_eq_true rfl) lx0 (fun x1 μ1 hp1 => ?_)
    rw [hp1.1, hp1.2]
    refine v_if_eq (pc := 5) (tgt := 17) F dX9_glad_5 (by decide) (fun h5_2 => ?_) (fun h5_2 => ?_)
    · rw [b2i_0] at h5_2
      refine v_aload_n (pc := 17) (i := 0) F dX9_glad_17 rfl rfl ?_
      refine v_bipush (pc := 18) (v := (-2)) F dX9_glad_18 (by decide) ?_
      refine v_callVI (pc := 20) (As := [_]) (rest := []) (c := 9) F mX9_refuse kX9_79 im_X9_refuse se_X9_refuse dX9_glad_20 rfl rfl (by decide) (c_X9_refuse (-2) 2 (by decide) (by decide) (by decide) _) (by decide) rfl rfl (Nat.le_of_ble_eq_true rfl) lx0 (fun x3 μ3 hp3 => ?_)
      rw [hp3.1, hp3.2]
      refine v_ireturn (pc := 23) F dX9_glad_23 (rfl) ?_
      simp only [s_glad, gnE, rj, hnn, hqw, hix, hc0, h5_2, ↓reduceIte]
      refine ⟨?_, ?_⟩ <;> first | exact trivial | exact rfl | exact hR | exact Rel.rj hM hR (by decide)
    · rw [b2i_0] at h5_2
      rw [Classical.not_not] at h5_2
      obtain ⟨k_set, hk_set, he_set⟩ := inR_of (by omega) h5_2
      subst he_set
      have ek_set : ix (nI k_set) = k_set := nI_clamp (by omega)
      refine v_iload_n (pc := 8) (i := 2) F dX9_glad_8 rfl rfl ?_
      refine v_if_eq (pc := 9) (tgt := 24) F dX9_glad_9 (by decide) (fun h9_4 => ?_) (fun h9_4 => ?_)
      · rw [j_eq0 (by omega)] at h9_4
        refine v_aload_n (pc := 24) (i := 0) F dX9_glad_24 rfl rfl ?_
        refine v_getR (pc := 25) (o := 64) F fX9_25 dX9_glad_25 rfl lx0 ?_
        refine v_topR (y := 64) rfl ?_
        refine v_aload_n (pc := 28) (i := 0) F dX9_glad_28 rfl rfl ?_
        refine v_getR (pc := 29) (o := 1) F fX9_12 dX9_glad_29 rfl lx0 ?_
        refine v_topR (y := 1) rfl ?_
        refine v_iload_n (pc := 32) (i := 1) F dX9_glad_32 rfl rfl ?_
        refine v_aload_n (pc := 33) (i := 0) F dX9_glad_33 rfl rfl ?_
        refine v_getR (pc := 34) (o := 1) F fX9_12 dX9_glad_34 rfl lx0 ?_
        refine v_topR (y := 1) rfl ?_
        refine v_getI (pc := 37) F fX9_150 dX9_glad_37 rfl (lx9_0 lx0) ?_
        refine v_topE (y := (lfB (ν.1 1))) (hS.1.fil) ?_
        refine v_callVV (pc := 40) (As := [_, _, _]) (rest := []) (c := 2) F mX2_run kX9_260 im_X2_run se_X2_run dX9_glad_40 rfl rfl (by decide) (c_X2_run 64 (lx9_4 lx0) 1 (lx9_0 lx0) n ν.1 _ (hS) hW (nI k_set) (ν.1 1) UU.self (by omega)) (by decide) rfl rfl (Nat.le_of_ble_eq_true rfl) (lx9_4 lx0) (fun μ5 hp5 => ?_)
        skip
        refine v_iload_n (pc := 43) (i := 2) F dX9_glad_43 rfl rfl ?_
        refine v_if_ne (pc := 44) (tgt := 57) F dX9_glad_44 (by decide) (fun h44_6 => ?_) (fun h44_6 => ?_)
        · rw [j_eq0 (by omega)] at h44_6
          exact absurd h44_6 (by decide)
        · rw [j_eq0 (by omega)] at h44_6
          refine v_aload_n (pc := 47) (i := 0) F dX9_glad_47 rfl rfl ?_
          refine v_getR (pc := 48) (o := 64) F fX9_25 dX9_glad_48 rfl lx0 ?_
          refine v_topR (y := 64) rfl ?_
          refine v_getI (pc := 51) F fX9_270 dX9_glad_51 rfl (lx9_4 lx0) ?_
          refine v_topE (y := (bK (fun l => tb (nI k_set) l && gdE ν.1 n (nI k_set) l) n)) (hp5.2.2.2.1) ?_
          refine v_goto (pc := 54) (tgt := 64) F dX9_glad_54 (by decide) ?_
          refine v_callSI (pc := 64) (As := [_]) (rest := []) F mJ6_bitCount_0f7a4 kX9_236 sm_J6_bitCount_0f7a4 dX9_glad_64 (c_J6_bc _ _ _) (by decide) rfl rfl (Nat.le_of_ble_eq_true rfl) (fun x7 μ7 hp7 => ?_)
          rw [hp7.1, hp7.2]
          refine v_ireturn (pc := 67) F dX9_glad_67 (rfl) ?_
          rw [jbc_k hn8]
          simp only [s_glad, gnE, rj, hnn, hqw, hix, hc0, h5_2, ek_set, h9_4, h44_6, ↓reduceIte]
          refine ⟨?_, ?_⟩ <;> first | exact trivial | exact rfl | exact (hR.X hM hp5.1 (fun c j z => by omega)) | exact Rel.rj hM hR (by decide)
      · rw [j_eq0 (by omega)] at h9_4
        exact absurd h9_4 (by decide)
  · skip
    have hqw : inQ 2 (nI 1) = true := by decide
    have hix : ix (nI 1) = 1 := by decide
    have hc0 : (nI 1 = 0) = False := eq_false (by decide)
    refine v_aload_n (pc := 0) (i := 0) F dX9_glad_0 rfl rfl ?_
    refine v_iload_n (pc := 1) (i := 1) F dX9_glad_1 rfl rfl ?_
    refine v_callVI (pc := 2) (As := [_]) (rest := []) (c := 9) F mX9_isSet kX9_257 im_X9_isSet se_X9_isSet dX9_glad_2 rfl rfl (by decide) (c_X9_isSet _ n ν.1 _ (hS)) (by decide) rfl rfl (Nat.le_of_ble_eq_true rfl) lx0 (fun x8 μ8 hp8 => ?_)
    rw [hp8.1, hp8.2]
    refine v_if_eq (pc := 5) (tgt := 17) F dX9_glad_5 (by decide) (fun h5_9 => ?_) (fun h5_9 => ?_)
    · rw [b2i_0] at h5_9
      refine v_aload_n (pc := 17) (i := 0) F dX9_glad_17 rfl rfl ?_
      refine v_bipush (pc := 18) (v := (-2)) F dX9_glad_18 (by decide) ?_
      refine v_callVI (pc := 20) (As := [_]) (rest := []) (c := 9) F mX9_refuse kX9_79 im_X9_refuse se_X9_refuse dX9_glad_20 rfl rfl (by decide) (c_X9_refuse (-2) 2 (by decide) (by decide) (by decide) _) (by decide) rfl rfl (Nat.le_of_ble_eq_true rfl) lx0 (fun x10 μ10 hp10 => ?_)
      rw [hp10.1, hp10.2]
      refine v_ireturn (pc := 23) F dX9_glad_23 (rfl) ?_
      simp only [s_glad, gnE, rj, hnn, hqw, hix, hc0, h5_9, ↓reduceIte]
      refine ⟨?_, ?_⟩ <;> first | exact trivial | exact rfl | exact hR | exact Rel.rj hM hR (by decide)
    · rw [b2i_0] at h5_9
      rw [Classical.not_not] at h5_9
      obtain ⟨k_set, hk_set, he_set⟩ := inR_of (by omega) h5_9
      subst he_set
      have ek_set : ix (nI k_set) = k_set := nI_clamp (by omega)
      refine v_iload_n (pc := 8) (i := 2) F dX9_glad_8 rfl rfl ?_
      refine v_if_eq (pc := 9) (tgt := 24) F dX9_glad_9 (by decide) (fun h9_11 => ?_) (fun h9_11 => ?_)
      · rw [j_eq0 (by omega)] at h9_11
        exact absurd h9_11 (by decide)
      · rw [j_eq0 (by omega)] at h9_11
        refine v_iload_n (pc := 12) (i := 2) F dX9_glad_12 rfl rfl ?_
        refine v_iconst (pc := 13) (v := nI 1) F dX9_glad_13 (by decide) ?_
        refine v_icmp_eq (pc := 14) (tgt := 24) F dX9_glad_14 (by decide) (fun h14_12 => ?_) (fun h14_12 => ?_)
        · rw [nI_eq (by omega) (by omega)] at h14_12
          refine v_aload_n (pc := 24) (i := 0) F dX9_glad_24 rfl rfl ?_
          refine v_getR (pc := 25) (o := 64) F fX9_25 dX9_glad_25 rfl lx0 ?_
          refine v_topR (y := 64) rfl ?_
          refine v_aload_n (pc := 28) (i := 0) F dX9_glad_28 rfl rfl ?_
          refine v_getR (pc := 29) (o := 1) F fX9_12 dX9_glad_29 rfl lx0 ?_
          refine v_topR (y := 1) rfl ?_
          refine v_iload_n (pc := 32) (i := 1) F dX9_glad_32 rfl rfl ?_
          refine v_aload_n (pc := 33) (i := 0) F dX9_glad_33 rfl rfl ?_
          refine v_getR (pc := 34) (o := 1) F fX9_12 dX9_glad_34 rfl lx0 ?_
          refine v_topR (y := 1) rfl ?_
          refine v_getI (pc := 37) F fX9_150 dX9_glad_37 rfl (lx9_0 lx0) ?_
          refine v_topE (y := (lfB (ν.1 1))) (hS.1.fil) ?_
          refine v_callVV (pc := 40) (As := [_, _, _]) (rest := []) (c := 2) F mX2_run kX9_260 im_X2_run se_X2_run dX9_glad_40 rfl rfl (by decide) (c_X2_run 64 (lx9_4 lx0) 1 (lx9_0 lx0) n ν.1 _ (hS) hW (nI k_set) (ν.1 1) UU.self (by omega)) (by decide) rfl rfl (Nat.le_of_ble_eq_true rfl) (lx9_4 lx0) (fun μ13 hp13 => ?_)
          skip
          refine v_iload_n (pc := 43) (i := 2) F dX9_glad_43 rfl rfl ?_
          refine v_if_ne (pc := 44) (tgt := 57) F dX9_glad_44 (by decide) (fun h44_14 => ?_) (fun h44_14 => ?_)
          · rw [j_eq0 (by omega)] at h44_14
            refine v_aload_n (pc := 57) (i := 0) F dX9_glad_57 rfl rfl ?_
            refine v_getR (pc := 58) (o := 64) F fX9_25 dX9_glad_58 rfl lx0 ?_
            refine v_topR (y := 64) rfl ?_
            refine v_getI (pc := 61) F fX9_273 dX9_glad_61 rfl (lx9_4 lx0) ?_
            refine v_topE (y := (bK (fun l => tb (nI k_set) l && (tE ν.1 n (nI k_set) l).isEmpty) n)) (hp13.2.2.2.2) ?_
            refine v_callSI (pc := 64) (As := [_]) (rest := []) F mJ6_bitCount_0f7a4 kX9_236 sm_J6_bitCount_0f7a4 dX9_glad_64 (c_J6_bc _ _ _) (by decide) rfl rfl (Nat.le_of_ble_eq_true rfl) (fun x15 μ15 hp15 => ?_)
            rw [hp15.1, hp15.2]
            refine v_ireturn (pc := 67) F dX9_glad_67 (rfl) ?_
            rw [jbc_k hn8]
            simp only [s_glad, gnE, rj, hnn, hqw, hix, hc0, h5_9, ek_set, h9_11, h14_12, h44_14, ↓reduceIte]
            refine ⟨?_, ?_⟩ <;> first | exact trivial | exact rfl | exact (hR.X hM hp13.1 (fun c j z => by omega)) | exact Rel.rj hM hR (by decide)
          · rw [j_eq0 (by omega)] at h44_14
            exact absurd h44_14 (by decide)
        · rw [nI_eq (by omega) (by omega)] at h14_12
          exact absurd h14_12 (by decide)
  · skip
    refine v_aload_n (pc := 0) (i := 0) F dX9_glad_0 rfl rfl ?_
    refine v_iload_n (pc := 1) (i := 1) F dX9_glad_1 rfl rfl ?_
    refine v_callVI (pc := 2) (As := [_]) (rest := []) (c := 9) F mX9_isSet kX9_257 im_X9_isSet se_X9_isSet dX9_glad_2 rfl rfl (by decide) (c_X9_isSet _ n ν.1 _ (hS)) (by decide) rfl rfl (Nat.le_of_ble_eq_true rfl) lx0 (fun x16 μ16 hp16 => ?_)
    rw [hp16.1, hp16.2]
    refine v_if_eq (pc := 5) (tgt := 17) F dX9_glad_5 (by decide) (fun h5_17 => ?_) (fun h5_17 => ?_)
    · rw [b2i_0] at h5_17
      refine v_aload_n (pc := 17) (i := 0) F dX9_glad_17 rfl rfl ?_
      refine v_bipush (pc := 18) (v := (-2)) F dX9_glad_18 (by decide) ?_
      refine v_callVI (pc := 20) (As := [_]) (rest := []) (c := 9) F mX9_refuse kX9_79 im_X9_refuse se_X9_refuse dX9_glad_20 rfl rfl (by decide) (c_X9_refuse (-2) 2 (by decide) (by decide) (by decide) _) (by decide) rfl rfl (Nat.le_of_ble_eq_true rfl) lx0 (fun x18 μ18 hp18 => ?_)
      rw [hp18.1, hp18.2]
      refine v_ireturn (pc := 23) F dX9_glad_23 (rfl) ?_
      simp only [s_glad, gnE, rj, hnn, hqw, h5_17, ↓reduceIte]
      refine ⟨?_, ?_⟩ <;> first | exact trivial | exact rfl | exact hR | exact Rel.rj hM hR (by decide)
    · rw [b2i_0] at h5_17
      rw [Classical.not_not] at h5_17
      obtain ⟨k_set, hk_set, he_set⟩ := inR_of (by omega) h5_17
      subst he_set
      have ek_set : ix (nI k_set) = k_set := nI_clamp (by omega)
      refine v_iload_n (pc := 8) (i := 2) F dX9_glad_8 rfl rfl ?_
      refine v_if_eq (pc := 9) (tgt := 24) F dX9_glad_9 (by decide) (fun h9_19 => ?_) (fun h9_19 => ?_)
      · skip
        exact absurd (show inQ 2 _ = true by rw [h9_19]; decide) hqw
      · skip
        refine v_iload_n (pc := 12) (i := 2) F dX9_glad_12 rfl rfl ?_
        refine v_iconst (pc := 13) (v := nI 1) F dX9_glad_13 (by decide) ?_
        refine v_icmp_eq (pc := 14) (tgt := 24) F dX9_glad_14 (by decide) (fun h14_20 => ?_) (fun h14_20 => ?_)
        · skip
          exact absurd (show inQ 2 _ = true by rw [h14_20]; decide) hqw
        · skip
          refine v_aload_n (pc := 17) (i := 0) F dX9_glad_17 rfl rfl ?_
          refine v_bipush (pc := 18) (v := (-2)) F dX9_glad_18 (by decide) ?_
          refine v_callVI (pc := 20) (As := [_]) (rest := []) (c := 9) F mX9_refuse kX9_79 im_X9_refuse se_X9_refuse dX9_glad_20 rfl rfl (by decide) (c_X9_refuse (-2) 2 (by decide) (by decide) (by decide) _) (by decide) rfl rfl (Nat.le_of_ble_eq_true rfl) lx0 (fun x21 μ21 hp21 => ?_)
          rw [hp21.1, hp21.2]
          refine v_ireturn (pc := 23) F dX9_glad_23 (rfl) ?_
          simp only [s_glad, gnE, rj, hnn, hqw, h5_17, ek_set, h9_19, h14_20, ↓reduceIte]
          refine ⟨?_, ?_⟩ <;> first | exact trivial | exact rfl | exact hR | exact Rel.rj hM hR (by decide)

set_option maxRecDepth 100000 in
theorem c_X9_order (set i : Int32) (μ ν : j_M) (hM : MI ν) (hR : Rel μ ν) : Ct yX9_order cX9_order 4 (some .int) 2 ΛX [.ref 0, .int set, .int i] μ (pI fun r μ2 => r = (s_order set i ν).1 ∧ Rel μ2 (s_order set i ν).2) := by
  refine Ct.go (lo := [some (.ref 0), some (.int set), some (.int i), none]) (by decide) (Nat.le_of_ble_eq_true rfl) rfl rfl (fun X F => ?_)
  have F : Fx X cX9_order RX9 2 (some .int) ΛX := F
  obtain ⟨n, hW, hsh, htp, him⟩ := id hM
  have hn := hW.1
  have hn8 := hW.2.1
  have hnn := nn_eq hn hn8
  have ho := hW.own
  have hpw := j_pw hn8
  have hS : SQ μ 1 ν.1 n := ⟨by have := hR.sc; rwa [hnn] at this, hn8⟩
  refine v_aload_n (pc := 0) (i := 0) F dX9_order_0 rfl rfl ?_
  refine v_iload_n (pc := 1) (i := 1) F dX9_order_1 rfl rfl ?_
  refine v_callVI (pc := 2) (As := [_]) (rest := []) (c := 9) F mX9_isSet kX9_257 im_X9_isSet se_X9_isSet dX9_order_2 rfl rfl (by decide) (c_X9_isSet _ n ν.1 _ (hS)) (by decide) rfl rfl (Nat.le_of_ble_eq_true rfl) lx0 (fun x1 μ1 hp1 => ?_)
  rw [hp1.1, hp1.2]
  refine v_if_ne (pc := 5) (tgt := 15) F dX9_order_5 (by decide) (fun h5_2 => ?_) (fun h5_2 => ?_)
  · rw [b2i_0] at h5_2
    rw [Classical.not_not] at h5_2
    obtain ⟨k_set, hk_set, he_set⟩ := inR_of (by omega) h5_2
    subst he_set
    have ek_set : ix (nI k_set) = k_set := nI_clamp (by omega)
    refine v_aload_n (pc := 15) (i := 0) F dX9_order_15 rfl rfl ?_
    refine v_getR (pc := 16) (o := 1) F fX9_12 dX9_order_16 rfl lx0 ?_
    refine v_topR (y := 1) rfl ?_
    refine v_iload_n (pc := 19) (i := 1) F dX9_order_19 rfl rfl ?_
    refine v_iload_n (pc := 20) (i := 2) F dX9_order_20 rfl rfl ?_
    refine v_callVI (pc := 21) (As := [_, _]) (rest := []) (c := 4) F mX4_inOrder kX9_276 im_X4_inOrder se_X4_inOrder dX9_order_21 rfl rfl (by decide) (c_X4_inOrder 1 (lx9_0 lx0) n ν.1 _ (hS) _ _) (by decide) rfl rfl (Nat.le_of_ble_eq_true rfl) (lx9_0 lx0) (fun x3 μ3 hp3 => ?_)
    rw [hp3.1, hp3.2]
    by_cases hio : inQ (OO ν.1 n (nI k_set)).length i = true
    · skip
      refine v_topE (y := nI ((OO ν.1 n (nI k_set)).getD (ix i) 0)) (if_pos hio) ?_
      have hgb : (OO ν.1 n (nI k_set)).getD (ix i) 0 < 2 ^ 31 := by
        have hl : (OO ν.1 n (nI k_set)).length ≤ n := by rw [← AK_n]; exact AK_le (Nat.le_refl _)
        obtain ⟨j, h1, h2⟩ := (inR_iff (by omega)).mp hio
        have := (ordO_mem.mp (getD_mem (O := OO ν.1 n (nI k_set)) (j := ix i) (by rw [h2, ix_nI (by omega)]; exact h1))).1
        omega
      refine v_istore_n (pc := 24) (lo' := [some (.ref _), some (.int _), some (.int _), some (.int _)]) F dX9_order_24 rfl rfl (Nat.le_of_ble_eq_true rfl) rfl ?_
      refine v_iload_n (pc := 25) (i := 3) F dX9_order_25 rfl rfl ?_
      refine v_iconst (pc := 26) (v := (-1)) F dX9_order_26 (by decide) ?_
      refine v_icmp_ne (pc := 27) (tgt := 39) F dX9_order_27 (by decide) (fun h27 => ?_) (fun h27 => ?_)
      · rw [j_nm1 (by omega)] at h27
        refine v_iload_n (pc := 39) (i := 3) F dX9_order_39 rfl rfl ?_
        refine v_ireturn (pc := 40) F dX9_order_40 (rfl) ?_
        simp only [s_order, rj, hnn, h5_2, ek_set, hio, h27, ↓reduceIte]
        refine ⟨?_, ?_⟩ <;> first | exact trivial | exact rfl | exact hR | exact Rel.rj hM hR (by decide)
      · rw [j_nm1 (by omega)] at h27
        exact h27.elim
    · skip
      refine v_topE (y := -1) (if_neg hio) ?_
      refine v_istore_n (pc := 24) (lo' := [some (.ref _), some (.int _), some (.int _), some (.int _)]) F dX9_order_24 rfl rfl (Nat.le_of_ble_eq_true rfl) rfl ?_
      refine v_iload_n (pc := 25) (i := 3) F dX9_order_25 rfl rfl ?_
      refine v_iconst (pc := 26) (v := (-1)) F dX9_order_26 (by decide) ?_
      refine v_icmp_ne (pc := 27) (tgt := 39) F dX9_order_27 (by decide) (fun h27 => ?_) (fun h27 => ?_)
      · skip
        exact absurd rfl h27
      · skip
        refine v_aload_n (pc := 30) (i := 0) F dX9_order_30 rfl rfl ?_
        refine v_bipush (pc := 31) (v := (-2)) F dX9_order_31 (by decide) ?_
        refine v_callVI (pc := 33) (As := [_]) (rest := []) (c := 9) F mX9_refuse kX9_79 im_X9_refuse se_X9_refuse dX9_order_33 rfl rfl (by decide) (c_X9_refuse (-2) 2 (by decide) (by decide) (by decide) _) (by decide) rfl rfl (Nat.le_of_ble_eq_true rfl) lx0 (fun x6 μ6 hp6 => ?_)
        rw [hp6.1, hp6.2]
        refine v_goto (pc := 36) (tgt := 40) F dX9_order_36 (by decide) ?_
        refine v_ireturn (pc := 40) F dX9_order_40 (rfl) ?_
        simp only [s_order, rj, hnn, h5_2, ek_set, hio, h27, ↓reduceIte]
        refine ⟨?_, ?_⟩ <;> first | exact trivial | exact rfl | exact hR | exact Rel.rj hM hR (by decide)
  · rw [b2i_0] at h5_2
    refine v_aload_n (pc := 8) (i := 0) F dX9_order_8 rfl rfl ?_
    refine v_bipush (pc := 9) (v := (-2)) F dX9_order_9 (by decide) ?_
    refine v_callVI (pc := 11) (As := [_]) (rest := []) (c := 9) F mX9_refuse kX9_79 im_X9_refuse se_X9_refuse dX9_order_11 rfl rfl (by decide) (c_X9_refuse (-2) 2 (by decide) (by decide) (by decide) _) (by decide) rfl rfl (Nat.le_of_ble_eq_true rfl) lx0 (fun x7 μ7 hp7 => ?_)
    rw [hp7.1, hp7.2]
    refine v_ireturn (pc := 14) F dX9_order_14 (rfl) ?_
    simp only [s_order, rj, hnn, h5_2, ↓reduceIte]
    refine ⟨?_, ?_⟩ <;> first | exact trivial | exact rfl | exact hR | exact Rel.rj hM hR (by decide)

set_option maxRecDepth 100000 in
theorem c_X9_without (l : Int32) (μ ν : j_M) (hM : MI ν) (hR : Rel μ ν) : Ct yX9_without cX9_without 2 (some .int) 5 ΛX [.ref 0, .int l] μ (pI fun r μ2 => r = (s_without l ν).1 ∧ Rel μ2 (s_without l ν).2) := by
  refine Ct.go (lo := [some (.ref 0), some (.int l)]) (by decide) (Nat.le_of_ble_eq_true rfl) rfl rfl (fun X F => ?_)
  have F : Fx X cX9_without RX9 5 (some .int) ΛX := F
  obtain ⟨n, hW, hsh, htp, him⟩ := id hM
  have hn := hW.1
  have hn8 := hW.2.1
  have hnn := nn_eq hn hn8
  have ho := hW.own
  have hpw := j_pw hn8
  have hS : SQ μ 1 ν.1 n := ⟨by have := hR.sc; rwa [hnn] at this, hn8⟩
  refine v_aload_n (pc := 0) (i := 0) F dX9_without_0 rfl rfl ?_
  refine v_iload_n (pc := 1) (i := 1) F dX9_without_1 rfl rfl ?_
  refine v_callVI (pc := 2) (As := [_]) (rest := []) (c := 9) F mX9_isLooker kX9_126 im_X9_isLooker se_X9_isLooker dX9_without_2 rfl rfl (by decide) (c_X9_isLooker _ n ν.1 _ (hS)) (by decide) rfl rfl (Nat.le_of_ble_eq_true rfl) lx0 (fun x1 μ1 hp1 => ?_)
  rw [hp1.1, hp1.2]
  refine v_if_ne (pc := 5) (tgt := 15) F dX9_without_5 (by decide) (fun h5_2 => ?_) (fun h5_2 => ?_)
  · rw [b2i_0] at h5_2
    rw [Classical.not_not] at h5_2
    obtain ⟨k_l, hk_l, he_l⟩ := inR_of (by omega) h5_2
    subst he_l
    have ek_l : ix (nI k_l) = k_l := nI_clamp (by omega)
    refine v_aload_n (pc := 15) (i := 0) F dX9_without_15 rfl rfl ?_
    refine v_getR (pc := 16) (o := 64) F fX9_25 dX9_without_16 rfl lx0 ?_
    refine v_topR (y := 64) rfl ?_
    refine v_aload_n (pc := 19) (i := 0) F dX9_without_19 rfl rfl ?_
    refine v_getR (pc := 20) (o := 1) F fX9_12 dX9_without_20 rfl lx0 ?_
    refine v_topR (y := 1) rfl ?_
    refine v_aload_n (pc := 23) (i := 0) F dX9_without_23 rfl rfl ?_
    refine v_getR (pc := 24) (o := 1) F fX9_12 dX9_without_24 rfl lx0 ?_
    refine v_topR (y := 1) rfl ?_
    refine v_callVI (pc := 27) (As := []) (rest := [_, _]) (c := 4) F mX4_everybody kX9_279 im_X4_everybody se_X4_everybody dX9_without_27 rfl rfl (by decide) (c_X4_everybody 1 (lx9_0 lx0) n ν.1 _ (hS)) (by decide) rfl rfl (Nat.le_of_ble_eq_true rfl) (lx9_0 lx0) (fun x3 μ3 hp3 => ?_)
    rw [hp3.1, hp3.2]
    refine v_iconst (pc := 30) (v := nI 1) F dX9_without_30 (by decide) ?_
    refine v_iload_n (pc := 31) (i := 1) F dX9_without_31 rfl rfl ?_
    refine v_ishl (pc := 32) F dX9_without_32 ?_
    refine v_iconst (pc := 33) (v := (-1)) F dX9_without_33 (by decide) ?_
    refine v_ixor (pc := 34) F dX9_without_34 ?_
    refine v_iand (pc := 35) F dX9_without_35 ?_
    refine v_aload_n (pc := 36) (i := 0) F dX9_without_36 rfl rfl ?_
    refine v_getR (pc := 37) (o := 1) F fX9_12 dX9_without_37 rfl lx0 ?_
    refine v_topR (y := 1) rfl ?_
    refine v_getI (pc := 40) F fX9_150 dX9_without_40 rfl (lx9_0 lx0) ?_
    refine v_topE (y := (lfB (ν.1 1))) (hS.1.fil) ?_
    refine v_callVV (pc := 43) (As := [_, _, _]) (rest := []) (c := 2) F mX2_run kX9_260 im_X2_run se_X2_run dX9_without_43 rfl rfl (by decide) (c_X2_run 64 (lx9_4 lx0) 1 (lx9_0 lx0) n ν.1 _ (hS) hW ((nI (2 ^ n - 1) &&& ((nI 1 <<< (nI k_l &&& 31)) ^^^ (-1)))) (ν.1 1) UU.self (by omega)) (by decide) rfl rfl (Nat.le_of_ble_eq_true rfl) (lx9_4 lx0) (fun μ4 hp4 => ?_)
    skip
    refine v_aload_n (pc := 46) (i := 0) F dX9_without_46 rfl rfl ?_
    refine v_getR (pc := 47) (o := 64) F fX9_25 dX9_without_47 rfl lx0 ?_
    refine v_topR (y := 64) rfl ?_
    refine v_getI (pc := 50) F fX9_270 dX9_without_50 rfl (lx9_4 lx0) ?_
    refine v_topE (y := (bK (fun l => tb ((nI (2 ^ n - 1) &&& ((nI 1 <<< (nI k_l &&& 31)) ^^^ (-1)))) l && gdE ν.1 n ((nI (2 ^ n - 1) &&& ((nI 1 <<< (nI k_l &&& 31)) ^^^ (-1)))) l) n)) (hp4.2.2.2.1) ?_
    refine v_callSI (pc := 53) (As := [_]) (rest := []) F mJ6_bitCount_0f7a4 kX9_236 sm_J6_bitCount_0f7a4 dX9_without_53 (c_J6_bc _ _ _) (by decide) rfl rfl (Nat.le_of_ble_eq_true rfl) (fun x5 μ5 hp5 => ?_)
    rw [hp5.1, hp5.2]
    refine v_ireturn (pc := 56) F dX9_without_56 (rfl) ?_
    rw [jbc_k hn8]
    simp only [s_without, rj, hnn, h5_2, ek_l, ↓reduceIte]
    refine ⟨?_, ?_⟩ <;> first | exact trivial | exact rfl | exact (hR.X hM hp4.1 (fun c j z => by omega)) | exact Rel.rj hM hR (by decide)
  · rw [b2i_0] at h5_2
    refine v_aload_n (pc := 8) (i := 0) F dX9_without_8 rfl rfl ?_
    refine v_bipush (pc := 9) (v := (-2)) F dX9_without_9 (by decide) ?_
    refine v_callVI (pc := 11) (As := [_]) (rest := []) (c := 9) F mX9_refuse kX9_79 im_X9_refuse se_X9_refuse dX9_without_11 rfl rfl (by decide) (c_X9_refuse (-2) 2 (by decide) (by decide) (by decide) _) (by decide) rfl rfl (Nat.le_of_ble_eq_true rfl) lx0 (fun x6 μ6 hp6 => ?_)
    rw [hp6.1, hp6.2]
    refine v_ireturn (pc := 14) F dX9_without_14 (rfl) ?_
    simp only [s_without, rj, hnn, h5_2, ↓reduceIte]
    refine ⟨?_, ?_⟩ <;> first | exact trivial | exact rfl | exact hR | exact Rel.rj hM hR (by decide)

set_option maxRecDepth 100000 in
theorem c_X9_twice (set then_ : Int32) (μ ν : j_M) (hM : MI ν) (hR : Rel μ ν) : Ct yX9_twice cX9_twice 3 (some .int) 5 ΛX [.ref 0, .int set, .int then_] μ (pI fun r μ2 => r = (s_twice set then_ ν).1 ∧ Rel μ2 (s_twice set then_ ν).2) := by
  refine Ct.go (lo := [some (.ref 0), some (.int set), some (.int then_)]) (by decide) (Nat.le_of_ble_eq_true rfl) rfl rfl (fun X F => ?_)
  have F : Fx X cX9_twice RX9 5 (some .int) ΛX := F
  obtain ⟨n, hW, hsh, htp, him⟩ := id hM
  have hn := hW.1
  have hn8 := hW.2.1
  have hnn := nn_eq hn hn8
  have ho := hW.own
  have hpw := j_pw hn8
  have hS : SQ μ 1 ν.1 n := ⟨by have := hR.sc; rwa [hnn] at this, hn8⟩
  refine v_aload_n (pc := 0) (i := 0) F dX9_twice_0 rfl rfl ?_
  refine v_iload_n (pc := 1) (i := 1) F dX9_twice_1 rfl rfl ?_
  refine v_callVI (pc := 2) (As := [_]) (rest := []) (c := 9) F mX9_isSet kX9_257 im_X9_isSet se_X9_isSet dX9_twice_2 rfl rfl (by decide) (c_X9_isSet _ n ν.1 _ (hS)) (by decide) rfl rfl (Nat.le_of_ble_eq_true rfl) lx0 (fun x1 μ1 hp1 => ?_)
  rw [hp1.1, hp1.2]
  refine v_if_eq (pc := 5) (tgt := 16) F dX9_twice_5 (by decide) (fun h5_2 => ?_) (fun h5_2 => ?_)
  · rw [b2i_0] at h5_2
    refine v_aload_n (pc := 16) (i := 0) F dX9_twice_16 rfl rfl ?_
    refine v_bipush (pc := 17) (v := (-2)) F dX9_twice_17 (by decide) ?_
    refine v_callVI (pc := 19) (As := [_]) (rest := []) (c := 9) F mX9_refuse kX9_79 im_X9_refuse se_X9_refuse dX9_twice_19 rfl rfl (by decide) (c_X9_refuse (-2) 2 (by decide) (by decide) (by decide) _) (by decide) rfl rfl (Nat.le_of_ble_eq_true rfl) lx0 (fun x3 μ3 hp3 => ?_)
    rw [hp3.1, hp3.2]
    refine v_ireturn (pc := 22) F dX9_twice_22 (rfl) ?_
    simp only [s_twice, rj, hnn, h5_2, ↓reduceIte]
    refine ⟨?_, ?_⟩ <;> first | exact trivial | exact rfl | exact hR | exact Rel.rj hM hR (by decide)
  · rw [b2i_0] at h5_2
    rw [Classical.not_not] at h5_2
    obtain ⟨k_set, hk_set, he_set⟩ := inR_of (by omega) h5_2
    subst he_set
    have ek_set : ix (nI k_set) = k_set := nI_clamp (by omega)
    refine v_aload_n (pc := 8) (i := 0) F dX9_twice_8 rfl rfl ?_
    refine v_iload_n (pc := 9) (i := 2) F dX9_twice_9 rfl rfl ?_
    refine v_callVI (pc := 10) (As := [_]) (rest := []) (c := 9) F mX9_isSet kX9_257 im_X9_isSet se_X9_isSet dX9_twice_10 rfl rfl (by decide) (c_X9_isSet _ n ν.1 _ (hS)) (by decide) rfl rfl (Nat.le_of_ble_eq_true rfl) lx0 (fun x4 μ4 hp4 => ?_)
    rw [hp4.1, hp4.2]
    refine v_if_ne (pc := 13) (tgt := 23) F dX9_twice_13 (by decide) (fun h13_5 => ?_) (fun h13_5 => ?_)
    · rw [b2i_0] at h13_5
      rw [Classical.not_not] at h13_5
      obtain ⟨k_then_, hk_then_, he_then_⟩ := inR_of (by omega) h13_5
      subst he_then_
      have ek_then_ : ix (nI k_then_) = k_then_ := nI_clamp (by omega)
      refine v_aload_n (pc := 23) (i := 0) F dX9_twice_23 rfl rfl ?_
      refine v_getR (pc := 24) (o := 64) F fX9_25 dX9_twice_24 rfl lx0 ?_
      refine v_topR (y := 64) rfl ?_
      refine v_aload_n (pc := 27) (i := 0) F dX9_twice_27 rfl rfl ?_
      refine v_getR (pc := 28) (o := 1) F fX9_12 dX9_twice_28 rfl lx0 ?_
      refine v_topR (y := 1) rfl ?_
      refine v_iload_n (pc := 31) (i := 1) F dX9_twice_31 rfl rfl ?_
      refine v_aload_n (pc := 32) (i := 0) F dX9_twice_32 rfl rfl ?_
      refine v_getR (pc := 33) (o := 1) F fX9_12 dX9_twice_33 rfl lx0 ?_
      refine v_topR (y := 1) rfl ?_
      refine v_getI (pc := 36) F fX9_150 dX9_twice_36 rfl (lx9_0 lx0) ?_
      refine v_topE (y := (lfB (ν.1 1))) (hS.1.fil) ?_
      refine v_callVV (pc := 39) (As := [_, _, _]) (rest := []) (c := 2) F mX2_run kX9_260 im_X2_run se_X2_run dX9_twice_39 rfl rfl (by decide) (c_X2_run 64 (lx9_4 lx0) 1 (lx9_0 lx0) n ν.1 _ (hS) hW (nI k_set) (ν.1 1) UU.self (by omega)) (by decide) rfl rfl (Nat.le_of_ble_eq_true rfl) (lx9_4 lx0) (fun μ6 hp6 => ?_)
      skip
      refine v_aload_n (pc := 42) (i := 0) F dX9_twice_42 rfl rfl ?_
      refine v_getR (pc := 43) (o := 64) F fX9_25 dX9_twice_43 rfl lx0 ?_
      refine v_topR (y := 64) rfl ?_
      refine v_aload_n (pc := 46) (i := 0) F dX9_twice_46 rfl rfl ?_
      refine v_getR (pc := 47) (o := 1) F fX9_12 dX9_twice_47 rfl lx0 ?_
      refine v_topR (y := 1) rfl ?_
      refine v_iload_n (pc := 50) (i := 2) F dX9_twice_50 rfl rfl ?_
      refine v_aload_n (pc := 51) (i := 0) F dX9_twice_51 rfl rfl ?_
      refine v_getR (pc := 52) (o := 64) F fX9_25 dX9_twice_52 rfl lx0 ?_
      refine v_topR (y := 64) rfl ?_
      refine v_getI (pc := 55) F fX9_264 dX9_twice_55 rfl (lx9_4 lx0) ?_
      refine v_topE (y := (lfB (uE ν.1 n (nI k_set)))) (hp6.2.1) ?_
      refine v_callVV (pc := 58) (As := [_, _, _]) (rest := []) (c := 2) F mX2_run kX9_260 im_X2_run se_X2_run dX9_twice_58 rfl rfl (by decide) (c_X2_run 64 (lx9_4 lx0) 1 (lx9_0 lx0) n ν.1 _ (SQ_F (hS) hp6.1 (fun c j z => by omega)) hW (nI k_then_) (uE ν.1 n (nI k_set)) (UU.go UU.self) (by omega)) (by decide) rfl rfl (Nat.le_of_ble_eq_true rfl) (lx9_4 lx0) (fun μ7 hp7 => ?_)
      skip
      refine v_aload_n (pc := 61) (i := 0) F dX9_twice_61 rfl rfl ?_
      refine v_getR (pc := 62) (o := 64) F fX9_25 dX9_twice_62 rfl lx0 ?_
      refine v_topR (y := 64) rfl ?_
      refine v_getI (pc := 65) F fX9_264 dX9_twice_65 rfl (lx9_4 lx0) ?_
      refine v_topE (y := (lfB (goU ν.1 (OO ν.1 n (nI k_then_)) (uE ν.1 n (nI k_set))))) (hp7.2.1) ?_
      refine v_ireturn (pc := 68) F dX9_twice_68 (rfl) ?_
      simp only [s_twice, rj, hnn, h5_2, ek_set, h13_5, ek_then_, ↓reduceIte]
      refine ⟨?_, ?_⟩ <;> first | exact trivial | exact rfl | exact ((hR.X hM hp6.1 (fun c j z => by omega)).X hM hp7.1 (fun c j z => by omega)) | exact Rel.rj hM hR (by decide)
    · rw [b2i_0] at h13_5
      refine v_aload_n (pc := 16) (i := 0) F dX9_twice_16 rfl rfl ?_
      refine v_bipush (pc := 17) (v := (-2)) F dX9_twice_17 (by decide) ?_
      refine v_callVI (pc := 19) (As := [_]) (rest := []) (c := 9) F mX9_refuse kX9_79 im_X9_refuse se_X9_refuse dX9_twice_19 rfl rfl (by decide) (c_X9_refuse (-2) 2 (by decide) (by decide) (by decide) _) (by decide) rfl rfl (Nat.le_of_ble_eq_true rfl) lx0 (fun x8 μ8 hp8 => ?_)
      rw [hp8.1, hp8.2]
      refine v_ireturn (pc := 22) F dX9_twice_22 (rfl) ?_
      simp only [s_twice, rj, hnn, h5_2, ek_set, h13_5, ↓reduceIte]
      refine ⟨?_, ?_⟩ <;> first | exact trivial | exact rfl | exact hR | exact Rel.rj hM hR (by decide)

theorem un_eq {w : Nat → Nat → Int32} {u : Nat → Int32} (h : UU w u) : unK w (lfB u) 8 = cK (fun s => decide (0 < cP (fun p => u p == nI s))) 8 := by
  unfold unK
  refine cK_congr (fun s hs => ?_)
  rw [pw_there hs h]
  refine Bool.eq_iff_iff.mpr ?_
  rw [decide_eq_true_eq]
  have e : (bK (fun p => u p == nI s) 12 = 0) = (¬ 0 < cP (fun p => u p == nI s)) := by
    rw [bK_0, propext fP_none_iff]
    have hz : ∀ m, (∀ j, j < m → (u j == nI s) = false) ↔ ¬ 0 < cK (fun p => u p == nI s) m := by
      intro m
      induction m with
      | zero => exact ⟨fun _ => by show ¬ 0 < 0; omega, fun _ j hj => by omega⟩
      | succ m ih =>
        by_cases c : (u m == nI s) = true
        · rw [cK_t (P := fun p => u p == nI s) (k := m) c]
          exact ⟨fun z => absurd (z m (by omega)) (by rw [c]; decide), fun z => absurd z (by omega)⟩
        · rw [cK_f (P := fun p => u p == nI s) (k := m) c, ← ih]
          refine ⟨fun z j hj => z j (by omega), fun z j hj => ?_⟩
          by_cases e : j = m
          · subst e; simpa using c
          · exact z j (by omega)
    exact propext (hz 12)
  rw [Bool.not_eq_true', beq_eq_false_iff_ne]
  show ¬ _ = 0 ↔ _
  rw [e, Classical.not_not]

set_option maxRecDepth 100000 in
theorem c_X9_unlike (set : Int32) (μ ν : j_M) (hM : MI ν) (hR : Rel μ ν) : Ct yX9_unlike cX9_unlike 2 (some .int) 5 ΛX [.ref 0, .int set] μ (pI fun r μ2 => r = (s_unlike set ν).1 ∧ Rel μ2 (s_unlike set ν).2) := by
  refine Ct.go (lo := [some (.ref 0), some (.int set)]) (by decide) (Nat.le_of_ble_eq_true rfl) rfl rfl (fun X F => ?_)
  have F : Fx X cX9_unlike RX9 5 (some .int) ΛX := F
  obtain ⟨n, hW, hsh, htp, him⟩ := id hM
  have hn := hW.1
  have hn8 := hW.2.1
  have hnn := nn_eq hn hn8
  have ho := hW.own
  have hpw := j_pw hn8
  have hS : SQ μ 1 ν.1 n := ⟨by have := hR.sc; rwa [hnn] at this, hn8⟩
  refine v_aload_n (pc := 0) (i := 0) F dX9_unlike_0 rfl rfl ?_
  refine v_iload_n (pc := 1) (i := 1) F dX9_unlike_1 rfl rfl ?_
  refine v_callVI (pc := 2) (As := [_]) (rest := []) (c := 9) F mX9_isSet kX9_257 im_X9_isSet se_X9_isSet dX9_unlike_2 rfl rfl (by decide) (c_X9_isSet _ n ν.1 _ (hS)) (by decide) rfl rfl (Nat.le_of_ble_eq_true rfl) lx0 (fun x1 μ1 hp1 => ?_)
  rw [hp1.1, hp1.2]
  refine v_if_ne (pc := 5) (tgt := 15) F dX9_unlike_5 (by decide) (fun h5_2 => ?_) (fun h5_2 => ?_)
  · rw [b2i_0] at h5_2
    rw [Classical.not_not] at h5_2
    obtain ⟨k_set, hk_set, he_set⟩ := inR_of (by omega) h5_2
    subst he_set
    have ek_set : ix (nI k_set) = k_set := nI_clamp (by omega)
    refine v_aload_n (pc := 15) (i := 0) F dX9_unlike_15 rfl rfl ?_
    refine v_getR (pc := 16) (o := 64) F fX9_25 dX9_unlike_16 rfl lx0 ?_
    refine v_topR (y := 64) rfl ?_
    refine v_aload_n (pc := 19) (i := 0) F dX9_unlike_19 rfl rfl ?_
    refine v_getR (pc := 20) (o := 1) F fX9_12 dX9_unlike_20 rfl lx0 ?_
    refine v_topR (y := 1) rfl ?_
    refine v_iload_n (pc := 23) (i := 1) F dX9_unlike_23 rfl rfl ?_
    refine v_aload_n (pc := 24) (i := 0) F dX9_unlike_24 rfl rfl ?_
    refine v_getR (pc := 25) (o := 1) F fX9_12 dX9_unlike_25 rfl lx0 ?_
    refine v_topR (y := 1) rfl ?_
    refine v_getI (pc := 28) F fX9_150 dX9_unlike_28 rfl (lx9_0 lx0) ?_
    refine v_topE (y := (lfB (ν.1 1))) (hS.1.fil) ?_
    refine v_callVV (pc := 31) (As := [_, _, _]) (rest := []) (c := 2) F mX2_run kX9_260 im_X2_run se_X2_run dX9_unlike_31 rfl rfl (by decide) (c_X2_run 64 (lx9_4 lx0) 1 (lx9_0 lx0) n ν.1 _ (hS) hW (nI k_set) (ν.1 1) UU.self (by omega)) (by decide) rfl rfl (Nat.le_of_ble_eq_true rfl) (lx9_4 lx0) (fun μ3 hp3 => ?_)
    skip
    refine v_aload_n (pc := 34) (i := 0) F dX9_unlike_34 rfl rfl ?_
    refine v_getR (pc := 35) (o := 1) F fX9_12 dX9_unlike_35 rfl lx0 ?_
    refine v_topR (y := 1) rfl ?_
    refine v_aload_n (pc := 38) (i := 0) F dX9_unlike_38 rfl rfl ?_
    refine v_getR (pc := 39) (o := 64) F fX9_25 dX9_unlike_39 rfl lx0 ?_
    refine v_topR (y := 64) rfl ?_
    refine v_getI (pc := 42) F fX9_264 dX9_unlike_42 rfl (lx9_4 lx0) ?_
    refine v_topE (y := (lfB (uE ν.1 n (nI k_set)))) (hp3.2.1) ?_
    refine v_callVI (pc := 45) (As := [_]) (rest := []) (c := 4) F mX4_countUnlike kX9_282 im_X4_countUnlike se_X4_countUnlike dX9_unlike_45 rfl rfl (by decide) (c_X4_countUnlike 1 (lx9_0 lx0) n ν.1 _ (SQ_F (hS) hp3.1 (fun c j z => by omega)) _) (by decide) rfl rfl (Nat.le_of_ble_eq_true rfl) (lx9_0 lx0) (fun x4 μ4 hp4 => ?_)
    rw [hp4.1, hp4.2]
    refine v_ireturn (pc := 48) F dX9_unlike_48 (rfl) ?_
    rw [un_eq (u := uE ν.1 n (nI k_set)) (UU.go UU.self)]
    simp only [s_unlike, rj, hnn, h5_2, ek_set, ↓reduceIte]
    refine ⟨?_, ?_⟩ <;> first | exact trivial | exact rfl | exact (hR.X hM hp3.1 (fun c j z => by omega)) | exact Rel.rj hM hR (by decide)
  · rw [b2i_0] at h5_2
    refine v_aload_n (pc := 8) (i := 0) F dX9_unlike_8 rfl rfl ?_
    refine v_bipush (pc := 9) (v := (-2)) F dX9_unlike_9 (by decide) ?_
    refine v_callVI (pc := 11) (As := [_]) (rest := []) (c := 9) F mX9_refuse kX9_79 im_X9_refuse se_X9_refuse dX9_unlike_11 rfl rfl (by decide) (c_X9_refuse (-2) 2 (by decide) (by decide) (by decide) _) (by decide) rfl rfl (Nat.le_of_ble_eq_true rfl) lx0 (fun x5 μ5 hp5 => ?_)
    rw [hp5.1, hp5.2]
    refine v_ireturn (pc := 14) F dX9_unlike_14 (rfl) ?_
    simp only [s_unlike, rj, hnn, h5_2, ↓reduceIte]
    refine ⟨?_, ?_⟩ <;> first | exact trivial | exact rfl | exact hR | exact Rel.rj hM hR (by decide)

set_option maxRecDepth 100000 in
theorem c_X9_places  (μ ν : j_M) (hM : MI ν) (hR : Rel μ ν) : Ct yX9_places cX9_places 1 (some .int) 0 ΛX [.ref 0] μ (pI fun r μ2 => r = (s_places ν).1 ∧ Rel μ2 (s_places ν).2) := by
  refine Ct.go (lo := [some (.ref 0)]) (by decide) (Nat.le_of_ble_eq_true rfl) rfl rfl (fun X F => ?_)
  have F : Fx X cX9_places RX9 0 (some .int) ΛX := F
  obtain ⟨n, hW, hsh, htp, him⟩ := id hM
  have hn := hW.1
  have hn8 := hW.2.1
  have hnn := nn_eq hn hn8
  have ho := hW.own
  have hpw := j_pw hn8
  have hS : SQ μ 1 ν.1 n := ⟨by have := hR.sc; rwa [hnn] at this, hn8⟩
  refine v_aload_n (pc := 0) (i := 0) F dX9_places_0 rfl rfl ?_
  refine v_getR (pc := 1) (o := 1) F fX9_12 dX9_places_1 rfl lx0 ?_
  refine v_topR (y := 1) rfl ?_
  refine v_getI (pc := 4) F fX9_150 dX9_places_4 rfl (lx9_0 lx0) ?_
  refine v_topE (y := (lfB (ν.1 1))) (hS.1.fil) ?_
  refine v_ireturn (pc := 7) F dX9_places_7 (rfl) ?_
  simp only [s_places, rj, hnn, ↓reduceIte]
  refine ⟨?_, ?_⟩ <;> first | exact trivial | exact rfl | exact hR | exact Rel.rj hM hR (by decide)

set_option maxRecDepth 100000 in
theorem c_X9_sortAt (p : Int32) (μ ν : j_M) (hM : MI ν) (hR : Rel μ ν) : Ct yX9_sortAt cX9_sortAt 2 (some .int) 2 ΛX [.ref 0, .int p] μ (pI fun r μ2 => r = (s_sortAt p ν).1 ∧ Rel μ2 (s_sortAt p ν).2) := by
  refine Ct.go (lo := [some (.ref 0), some (.int p)]) (by decide) (Nat.le_of_ble_eq_true rfl) rfl rfl (fun X F => ?_)
  have F : Fx X cX9_sortAt RX9 2 (some .int) ΛX := F
  obtain ⟨n, hW, hsh, htp, him⟩ := id hM
  have hn := hW.1
  have hn8 := hW.2.1
  have hnn := nn_eq hn hn8
  have ho := hW.own
  have hpw := j_pw hn8
  have hS : SQ μ 1 ν.1 n := ⟨by have := hR.sc; rwa [hnn] at this, hn8⟩
  refine v_iload_n (pc := 0) (i := 1) F dX9_sortAt_0 rfl rfl ?_
  refine v_callSI (pc := 1) (As := [_]) (rest := []) F mX9_isPlace kX9_157 sm_X9_isPlace dX9_sortAt_1 (c_X9_isPlace _ _) (by decide) rfl rfl (Nat.le_of_ble_eq_true rfl) (fun x1 μ1 hp1 => ?_)
  rw [hp1.1, hp1.2]
  refine v_if_eq (pc := 4) (tgt := 19) F dX9_sortAt_4 (by decide) (fun h4_2 => ?_) (fun h4_2 => ?_)
  · rw [b2i_0] at h4_2
    refine v_aload_n (pc := 19) (i := 0) F dX9_sortAt_19 rfl rfl ?_
    refine v_bipush (pc := 20) (v := (-2)) F dX9_sortAt_20 (by decide) ?_
    refine v_callVI (pc := 22) (As := [_]) (rest := []) (c := 9) F mX9_refuse kX9_79 im_X9_refuse se_X9_refuse dX9_sortAt_22 rfl rfl (by decide) (c_X9_refuse (-2) 2 (by decide) (by decide) (by decide) _) (by decide) rfl rfl (Nat.le_of_ble_eq_true rfl) lx0 (fun x3 μ3 hp3 => ?_)
    rw [hp3.1, hp3.2]
    refine v_ireturn (pc := 25) F dX9_sortAt_25 (rfl) ?_
    simp only [s_sortAt, rj, hnn, h4_2, ↓reduceIte]
    refine ⟨?_, ?_⟩ <;> first | exact trivial | exact rfl | exact hR | exact Rel.rj hM hR (by decide)
  · rw [b2i_0] at h4_2
    rw [Classical.not_not] at h4_2
    obtain ⟨k_p, hk_p, he_p⟩ := inR_of (by decide) h4_2
    subst he_p
    have ek_p : ix (nI k_p) = k_p := nI_clamp (by omega)
    refine v_aload_n (pc := 7) (i := 0) F dX9_sortAt_7 rfl rfl ?_
    refine v_getR (pc := 8) (o := 1) F fX9_12 dX9_sortAt_8 rfl lx0 ?_
    refine v_topR (y := 1) rfl ?_
    refine v_getR (pc := 11) (o := 1) F fX9_163 dX9_sortAt_11 rfl (lx9_0 lx0) ?_
    refine v_topR (y := 2) rfl ?_
    refine v_iload_n (pc := 14) (i := 1) F dX9_sortAt_14 rfl rfl ?_
    refine v_ialdN (pc := 15) (k0 := k_p) F dX9_sortAt_15 (lx4_0 (lx9_0 lx0)) (rfl) (by omega) (by decide) ?_
    refine v_topE (y := (ν.1 1 k_p)) (hS.1.srt k_p (by omega)) ?_
    refine v_goto (pc := 16) (tgt := 25) F dX9_sortAt_16 (by decide) ?_
    refine v_ireturn (pc := 25) F dX9_sortAt_25 (rfl) ?_
    simp only [s_sortAt, rj, hnn, h4_2, ek_p, ↓reduceIte]
    refine ⟨?_, ?_⟩ <;> first | exact trivial | exact rfl | exact hR | exact Rel.rj hM hR (by decide)
