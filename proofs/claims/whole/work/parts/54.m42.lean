/-! the class: shelves and the tape -/
theorem SH_r {n : Nat} {h len : Int32} (q : SH n h len) (hn : n ≤ 8) (h1 : ¬ nI 10 ≤ h) (h2 : ¬ h = -1) : (∃ j, j < 5 ∧ h = nI j) ∧ ∃ m, m ≤ 40 ∧ len = nI m := by
  rcases q with q | q | ⟨l, hl, q⟩
  · exact absurd q h2
  · exact q
  · rw [q] at h1
    exact absurd (nI_le (by omega) (by omega)) h1
theorem run_y {i n : Int32} {m : Nat} (hm : m ≤ 40) (h : 0 ≤ i ∧ 0 ≤ n ∧ i ≤ nI m ∧ n ≤ nI m - i) : ∃ ki kn, i = nI ki ∧ n = nI kn ∧ ki + kn ≤ m := by
  obtain ⟨h1, h2, h3, h4⟩ := h
  obtain ⟨ki, a1, rfl⟩ := nI_of (Int32.not_lt.mpr h1)
  obtain ⟨kn, a2, rfl⟩ := nI_of (Int32.not_lt.mpr h2)
  have h5 := (nI_leI a1 (by omega)).mp h3
  rw [pk_sub h5] at h4
  have h6 := (nI_leI a2 (by omega)).mp h4
  exact ⟨ki, kn, rfl, rfl, by omega⟩
theorem run_n {i n : Int32} {m : Nat} (hm : m ≤ 40) (h : ¬ (0 ≤ i ∧ 0 ≤ n ∧ i ≤ nI m ∧ n ≤ nI m - i)) : n < 0 ∨ i < 0 ∨ m < ix i + ix n := by
  by_cases h1 : n < 0
  · exact Or.inl h1
  by_cases h2 : i < 0
  · exact Or.inr (Or.inl h2)
  refine Or.inr (Or.inr (Nat.lt_of_not_le (fun h3 => h ?_)))
  obtain ⟨ki, a1, rfl⟩ := nI_of h2
  obtain ⟨kn, a2, rfl⟩ := nI_of h1
  rw [ix_nI a1, ix_nI a2] at h3
  refine ⟨nI_pos' a1, nI_pos' a2, (nI_leI a1 (by omega)).mpr (by omega), ?_⟩
  rw [pk_sub (by omega)]
  exact (nI_leI a2 (by omega)).mpr (by omega)
theorem inQ_no {N : Nat} {v : Int32} (h : ¬ inQ N v = true) (h1 : ¬ v < 0) (h2 : v < nI N) : False := h (inQ_def.mpr ⟨Int32.not_lt.mp h1, h2⟩)
theorem inQ_no2 {N M : Nat} {v : Int32} (hM : N + 1 = M) (hN : M < 2 ^ 31) (h : ¬ inQ M v = true) (h1 : ¬ v < 0) (h2 : v ≤ nI N) : False := h ((j_wi hM hN) ▸ (⟨Int32.not_lt.mp h1, h2⟩ : nI 0 ≤ v ∧ v ≤ nI N))
theorem elB_eq {μ ν : j_M} {k : Nat} {i : Int32} {n : Nat} (h : SF μ ν k) (hs : SH n (ν.1 10 k) (ν.1 11 k)) (hn : n ≤ 8) : elB μ (104 + 2 * k) i = if inQ 5 (ν.1 10 k) = true then (if inQ (ix (ν.1 11 k)) i = true then ν.2 12 (40 * k + ix i) else 0) else 0 := by
  obtain ⟨a, b, c⟩ := h
  unfold elB
  rw [a]
  by_cases q : inQ 5 (ν.1 10 k) = true
  · rw [if_pos q, if_pos q, b q]
    obtain ⟨-, m, hm, e⟩ := SH_row hs hn q
    rw [e, ix_nI (by omega)]
    by_cases q2 : inQ m i = true
    · rw [if_pos q2, if_pos q2]
      obtain ⟨x, hx, rfl⟩ := inR_of (by omega) q2
      rw [ix_nI (by omega), show 104 + 2 * k + 1 = 105 + 2 * k by omega]
      exact c x (by omega)
    · rw [if_neg q2, if_neg q2]
  · rw [if_neg q, if_neg q]
theorem SF_sz {μ ν : j_M} {k n : Nat} (h : SF μ ν k) (hs : SH n (ν.1 10 k) (ν.1 11 k)) (hn : n ≤ 8) : inQ 5 (μ.1 (104 + 2 * k) 1) = true → ∃ m, m ≤ 40 ∧ μ.1 (104 + 2 * k) 2 = nI m := by
  intro q
  rw [h.1] at q
  obtain ⟨-, m, hm, e⟩ := SH_row hs hn q
  exact ⟨m, hm, (h.2.1 q).trans e⟩
theorem OO_one {w : Nat → Nat → Int32} {n l : Nat} (hl : l < n) (hn : n ≤ 8) : OO w n ((1 : Int32) <<< (nI l &&& 31)) = [l] := by
  rw [OO_fl]
  have e : ∀ x, tb ((1 : Int32) <<< (nI l &&& 31)) x = decide (x = l) := fun x => tb_one (by omega) x
  have hm : l ∈ OA w n := OA_mem.mpr hl
  have hd : (OA w n).Nodup := ordO_nodup
  generalize OA w n = O at hm hd
  induction O with
  | nil => cases hm
  | cons a O ih =>
    have hd2 := List.nodup_cons.mp hd
    by_cases h : a = l
    · subst h
      rw [List.filter_cons_of_pos (by rw [e]; simp)]
      rw [List.filter_eq_nil_iff.mpr (fun y hy => by
        rw [e, decide_eq_true_eq]
        intro z
        rw [z] at hy
        exact hd2.1 hy)]
    · rw [List.filter_cons_of_neg (by rw [e]; simpa using h)]
      exact ih ((List.mem_cons.mp hm).resolve_left (fun z => h z.symm)) hd2.2
theorem tE_one {w : Nat → Nat → Int32} {n l : Nat} (hl : l < n) (hn : n ≤ 8) : tE w n ((1 : Int32) <<< (nI l &&& 31)) l = tk (w 2 l) (w 3 l) (w 5 l) (w 1) := by
  show goT w (OO w n _) (w 1) l = _
  rw [OO_one hl hn]
  exact if_pos rfl

set_option maxRecDepth 100000 in
theorem c_X9_row (s so n0 : Int32) (μ ν : j_M) (hM : MI ν) (hR : Rel μ ν) : Ct yX9_row cX9_row 4 (some .int) 3 ΛX [.ref 0, .int s, .int so, .int n0] μ (pI fun r μ2 => r = (s_row s so n0 ν).1 ∧ Rel μ2 (s_row s so n0 ν).2) := by
  refine Ct.go (lo := [some (.ref 0), some (.int s), some (.int so), some (.int n0)]) (by decide) (Nat.le_of_ble_eq_true rfl) rfl rfl (fun X F => ?_)
  have F : Fx X cX9_row RX9 3 (some .int) ΛX := F
  obtain ⟨n, hW, hsh, htp, him⟩ := id hM
  have hn := hW.1
  have hn8 := hW.2.1
  have hnn := nn_eq hn hn8
  have ho := hW.own
  have hpw := j_pw hn8
  have hS : SQ μ 1 ν.1 n := ⟨by have := hR.sc; rwa [hnn] at this, hn8⟩
  refine v_iload_n (pc := 0) (i := 1) F dX9_row_0 rfl rfl ?_
  refine v_callSI (pc := 1) (As := [_]) (rest := []) F mX9_isShelf kX9_75 sm_X9_isShelf dX9_row_1 (c_X9_isShelf _ _) (by decide) rfl rfl (Nat.le_of_ble_eq_true rfl) (fun x1 μ1 hp1 => ?_)
  rw [hp1.1, hp1.2]
  refine v_if_eq (pc := 4) (tgt := 26) F dX9_row_4 (by decide) (fun h4_2 => ?_) (fun h4_2 => ?_)
  · rw [b2i_0] at h4_2
    refine v_aload_n (pc := 26) (i := 0) F dX9_row_26 rfl rfl ?_
    refine v_bipush (pc := 27) (v := (-2)) F dX9_row_27 (by decide) ?_
    refine v_callVI (pc := 29) (As := [_]) (rest := []) (c := 9) F mX9_refuse kX9_79 im_X9_refuse se_X9_refuse dX9_row_29 rfl rfl (by decide) (c_X9_refuse (-2) 2 (by decide) (by decide) (by decide) _) (by decide) rfl rfl (Nat.le_of_ble_eq_true rfl) lx0 (fun x3 μ3 hp3 => ?_)
    rw [hp3.1, hp3.2]
    refine v_ireturn (pc := 32) F dX9_row_32 (rfl) ?_
    simp only [s_row, rj, hnn, h4_2, ↓reduceIte]
    refine ⟨?_, ?_⟩ <;> first | exact trivial | exact rfl | exact hR | exact Rel.rj hM hR (by decide)
  · rw [b2i_0] at h4_2
    rw [Classical.not_not] at h4_2
    obtain ⟨k_s, hk_s, he_s⟩ := inR_of (by decide) h4_2
    subst he_s
    have ek_s : ix (nI k_s) = k_s := nI_clamp (by omega)
    by_cases hq_so : inQ 5 so = true
    · skip
      obtain ⟨k_so, hk_so, he_so⟩ := inR_of (by decide) hq_so
      subst he_so
      have ek_so : ix (nI k_so) = k_so := nI_clamp (by omega)
      refine v_iload_n (pc := 7) (i := 2) F dX9_row_7 rfl rfl ?_
      refine v_if_lt (pc := 8) (tgt := 26) F dX9_row_8 (by decide) (fun h8_4 => ?_) (fun h8_4 => ?_)
      · rw [j_lt0 (by omega)] at h8_4
        exact h8_4.elim
      · rw [j_lt0 (by omega)] at h8_4
        refine v_iload_n (pc := 11) (i := 2) F dX9_row_11 rfl rfl ?_
        refine v_iconst (pc := 12) (v := nI 5) F dX9_row_12 (by decide) ?_
        refine v_icmp_ge (pc := 13) (tgt := 26) F dX9_row_13 (by decide) (fun h13_5 => ?_) (fun h13_5 => ?_)
        · rw [nI_leI (by omega) (by omega)] at h13_5
          omega
        · rw [nI_leI (by omega) (by omega)] at h13_5
          by_cases hq_n0 : inQ 41 n0 = true
          · skip
            obtain ⟨k_n0, hk_n0, he_n0⟩ := inR_of (by decide) hq_n0
            subst he_n0
            have ek_n0 : ix (nI k_n0) = k_n0 := nI_clamp (by omega)
            refine v_iload_n (pc := 16) (i := 3) F dX9_row_16 rfl rfl ?_
            refine v_if_lt (pc := 17) (tgt := 26) F dX9_row_17 (by decide) (fun h17_6 => ?_) (fun h17_6 => ?_)
            · rw [j_lt0 (by omega)] at h17_6
              exact h17_6.elim
            · rw [j_lt0 (by omega)] at h17_6
              refine v_iload_n (pc := 20) (i := 3) F dX9_row_20 rfl rfl ?_
              refine v_bipush (pc := 21) (v := nI 40) F dX9_row_21 (by decide) ?_
              refine v_icmp_le (pc := 23) (tgt := 33) F dX9_row_23 (by decide) (fun h23_7 => ?_) (fun h23_7 => ?_)
              · rw [nI_leI (by omega) (by omega)] at h23_7
                refine v_aload_n (pc := 33) (i := 0) F dX9_row_33 rfl rfl ?_
                refine v_getR (pc := 34) (o := 103) F fX9_66 dX9_row_34 rfl lx0 ?_
                refine v_topR (y := 103) rfl ?_
                refine v_iload_n (pc := 37) (i := 1) F dX9_row_37 rfl rfl ?_
                refine v_aald15N (pc := 38) (k0 := k_s) (x := 104 + 2 * k_s) F dX9_row_38 (lx9_10 lx0) (rfl) (by omega) (by decide) (by simp only [j_ro]; first | rfl | omega | (split <;> omega)) ?_
                have ho8 : j_ob ΛX (104 + 2 * k_s) 5 := by
                  have q := lxS (lx9_10 lx0) (j := k_s) (by omega)
                  simp only [j_ro] at q
                  exact (by first | exact q | (rw [show 104 + 2 * k_s = _ from (by first | rfl | omega)]; exact q))
                refine v_iload_n (pc := 39) (i := 2) F dX9_row_39 rfl rfl ?_
                refine v_iload_n (pc := 40) (i := 3) F dX9_row_40 rfl rfl ?_
                refine v_callVV (pc := 41) (As := [_, _]) (rest := []) (c := 5) F mX5_holdRow kX9_83 im_X5_holdRow se_X5_holdRow dX9_row_41 rfl rfl (by decide) (c_X5_holdRow _ ho8 _ _ _) (by decide) rfl rfl (Nat.le_of_ble_eq_true rfl) ho8 (fun μ9 hp9 => ?_)
                rw [hp9]
                refine v_iconst (pc := 44) (v := nI 1) F dX9_row_44 (by decide) ?_
                refine v_ireturn (pc := 45) F dX9_row_45 (rfl) ?_
                simp only [s_row, rj, hnn, h4_2, ek_s, hq_so, ek_so, h8_4, h13_5, hq_n0, ek_n0, h17_6, h23_7, ↓reduceIte]
                exact ⟨rfl, hR.row hM (by omega)⟩
              · rw [nI_leI (by omega) (by omega)] at h23_7
                omega
          · skip
            refine v_iload_n (pc := 16) (i := 3) F dX9_row_16 rfl rfl ?_
            refine v_if_lt (pc := 17) (tgt := 26) F dX9_row_17 (by decide) (fun hneg_n0 => ?_) (fun hneg_n0 => ?_)
            · skip
              refine v_aload_n (pc := 26) (i := 0) F dX9_row_26 rfl rfl ?_
              refine v_bipush (pc := 27) (v := (-2)) F dX9_row_27 (by decide) ?_
              refine v_callVI (pc := 29) (As := [_]) (rest := []) (c := 9) F mX9_refuse kX9_79 im_X9_refuse se_X9_refuse dX9_row_29 rfl rfl (by decide) (c_X9_refuse (-2) 2 (by decide) (by decide) (by decide) _) (by decide) rfl rfl (Nat.le_of_ble_eq_true rfl) lx0 (fun x11 μ11 hp11 => ?_)
              rw [hp11.1, hp11.2]
              refine v_ireturn (pc := 32) F dX9_row_32 (rfl) ?_
              simp only [s_row, rj, hnn, h4_2, ek_s, hq_so, ek_so, h8_4, h13_5, hq_n0, hneg_n0, ↓reduceIte]
              refine ⟨?_, ?_⟩ <;> first | exact trivial | exact rfl | exact hR | exact Rel.rj hM hR (by decide)
            · skip
              refine v_iload_n (pc := 20) (i := 3) F dX9_row_20 rfl rfl ?_
              refine v_bipush (pc := 21) (v := nI 40) F dX9_row_21 (by decide) ?_
              refine v_icmp_le (pc := 23) (tgt := 33) F dX9_row_23 (by decide) (fun h23_12 => ?_) (fun h23_12 => ?_)
              · skip
                exact (inQ_no2 rfl (by decide) hq_n0 hneg_n0 h23_12).elim
              · skip
                refine v_aload_n (pc := 26) (i := 0) F dX9_row_26 rfl rfl ?_
                refine v_bipush (pc := 27) (v := (-2)) F dX9_row_27 (by decide) ?_
                refine v_callVI (pc := 29) (As := [_]) (rest := []) (c := 9) F mX9_refuse kX9_79 im_X9_refuse se_X9_refuse dX9_row_29 rfl rfl (by decide) (c_X9_refuse (-2) 2 (by decide) (by decide) (by decide) _) (by decide) rfl rfl (Nat.le_of_ble_eq_true rfl) lx0 (fun x13 μ13 hp13 => ?_)
                rw [hp13.1, hp13.2]
                refine v_ireturn (pc := 32) F dX9_row_32 (rfl) ?_
                simp only [s_row, rj, hnn, h4_2, ek_s, hq_so, ek_so, h8_4, h13_5, hq_n0, hneg_n0, h23_12, ↓reduceIte]
                refine ⟨?_, ?_⟩ <;> first | exact trivial | exact rfl | exact hR | exact Rel.rj hM hR (by decide)
    · skip
      refine v_iload_n (pc := 7) (i := 2) F dX9_row_7 rfl rfl ?_
      refine v_if_lt (pc := 8) (tgt := 26) F dX9_row_8 (by decide) (fun hneg_so => ?_) (fun hneg_so => ?_)
      · skip
        refine v_aload_n (pc := 26) (i := 0) F dX9_row_26 rfl rfl ?_
        refine v_bipush (pc := 27) (v := (-2)) F dX9_row_27 (by decide) ?_
        refine v_callVI (pc := 29) (As := [_]) (rest := []) (c := 9) F mX9_refuse kX9_79 im_X9_refuse se_X9_refuse dX9_row_29 rfl rfl (by decide) (c_X9_refuse (-2) 2 (by decide) (by decide) (by decide) _) (by decide) rfl rfl (Nat.le_of_ble_eq_true rfl) lx0 (fun x15 μ15 hp15 => ?_)
        rw [hp15.1, hp15.2]
        refine v_ireturn (pc := 32) F dX9_row_32 (rfl) ?_
        simp only [s_row, rj, hnn, h4_2, ek_s, hq_so, hneg_so, ↓reduceIte]
        refine ⟨?_, ?_⟩ <;> first | exact trivial | exact rfl | exact hR | exact Rel.rj hM hR (by decide)
      · skip
        refine v_iload_n (pc := 11) (i := 2) F dX9_row_11 rfl rfl ?_
        refine v_iconst (pc := 12) (v := nI 5) F dX9_row_12 (by decide) ?_
        refine v_icmp_ge (pc := 13) (tgt := 26) F dX9_row_13 (by decide) (fun h13_16 => ?_) (fun h13_16 => ?_)
        · skip
          refine v_aload_n (pc := 26) (i := 0) F dX9_row_26 rfl rfl ?_
          refine v_bipush (pc := 27) (v := (-2)) F dX9_row_27 (by decide) ?_
          refine v_callVI (pc := 29) (As := [_]) (rest := []) (c := 9) F mX9_refuse kX9_79 im_X9_refuse se_X9_refuse dX9_row_29 rfl rfl (by decide) (c_X9_refuse (-2) 2 (by decide) (by decide) (by decide) _) (by decide) rfl rfl (Nat.le_of_ble_eq_true rfl) lx0 (fun x17 μ17 hp17 => ?_)
          rw [hp17.1, hp17.2]
          refine v_ireturn (pc := 32) F dX9_row_32 (rfl) ?_
          simp only [s_row, rj, hnn, h4_2, ek_s, hq_so, hneg_so, h13_16, ↓reduceIte]
          refine ⟨?_, ?_⟩ <;> first | exact trivial | exact rfl | exact hR | exact Rel.rj hM hR (by decide)
        · skip
          exact (inQ_no hq_so hneg_so (Int32.not_le.mp h13_16)).elim

set_option maxRecDepth 100000 in
theorem c_X9_holds (s : Int32) (μ ν : j_M) (hM : MI ν) (hR : Rel μ ν) : Ct yX9_holds cX9_holds 2 (some .int) 2 ΛX [.ref 0, .int s] μ (pI fun r μ2 => r = (s_holds s ν).1 ∧ Rel μ2 (s_holds s ν).2) := by
  refine Ct.go (lo := [some (.ref 0), some (.int s)]) (by decide) (Nat.le_of_ble_eq_true rfl) rfl rfl (fun X F => ?_)
  have F : Fx X cX9_holds RX9 2 (some .int) ΛX := F
  obtain ⟨n, hW, hsh, htp, him⟩ := id hM
  have hn := hW.1
  have hn8 := hW.2.1
  have hnn := nn_eq hn hn8
  have ho := hW.own
  have hpw := j_pw hn8
  have hS : SQ μ 1 ν.1 n := ⟨by have := hR.sc; rwa [hnn] at this, hn8⟩
  refine v_iload_n (pc := 0) (i := 1) F dX9_holds_0 rfl rfl ?_
  refine v_callSI (pc := 1) (As := [_]) (rest := []) F mX9_isShelf kX9_75 sm_X9_isShelf dX9_holds_1 (c_X9_isShelf _ _) (by decide) rfl rfl (Nat.le_of_ble_eq_true rfl) (fun x1 μ1 hp1 => ?_)
  rw [hp1.1, hp1.2]
  refine v_if_eq (pc := 4) (tgt := 19) F dX9_holds_4 (by decide) (fun h4_2 => ?_) (fun h4_2 => ?_)
  · rw [b2i_0] at h4_2
    refine v_iconst (pc := 19) (v := (-1)) F dX9_holds_19 (by decide) ?_
    refine v_ireturn (pc := 20) F dX9_holds_20 (rfl) ?_
    simp only [s_holds, hnn, h4_2, ↓reduceIte]
    refine ⟨?_, ?_⟩ <;> first | exact trivial | exact rfl | exact hR | exact Rel.rj hM hR (by decide)
  · rw [b2i_0] at h4_2
    rw [Classical.not_not] at h4_2
    obtain ⟨k_s, hk_s, he_s⟩ := inR_of (by decide) h4_2
    subst he_s
    have ek_s : ix (nI k_s) = k_s := nI_clamp (by omega)
    refine v_aload_n (pc := 7) (i := 0) F dX9_holds_7 rfl rfl ?_
    refine v_getR (pc := 8) (o := 103) F fX9_66 dX9_holds_8 rfl lx0 ?_
    refine v_topR (y := 103) rfl ?_
    refine v_iload_n (pc := 11) (i := 1) F dX9_holds_11 rfl rfl ?_
    refine v_aald15N (pc := 12) (k0 := k_s) (x := 104 + 2 * k_s) F dX9_holds_12 (lx9_10 lx0) (rfl) (by omega) (by decide) (by simp only [j_ro]; first | rfl | omega | (split <;> omega)) ?_
    have ho3 : j_ob ΛX (104 + 2 * k_s) 5 := by
      have q := lxS (lx9_10 lx0) (j := k_s) (by omega)
      simp only [j_ro] at q
      exact (by first | exact q | (rw [show 104 + 2 * k_s = _ from (by first | rfl | omega)]; exact q))
    refine v_getI (pc := 13) F fX9_105 dX9_holds_13 rfl ho3 ?_
    refine v_topE (y := (ν.1 10 k_s)) ((hR.sf k_s (by omega)).1) ?_
    refine v_goto (pc := 16) (tgt := 20) F dX9_holds_16 (by decide) ?_
    refine v_ireturn (pc := 20) F dX9_holds_20 (rfl) ?_
    simp only [s_holds, hnn, h4_2, ek_s, ↓reduceIte]
    refine ⟨?_, ?_⟩ <;> first | exact trivial | exact rfl | exact hR | exact Rel.rj hM hR (by decide)

set_option maxRecDepth 100000 in
theorem c_X9_element (s i : Int32) (μ ν : j_M) (hM : MI ν) (hR : Rel μ ν) : Ct yX9_element cX9_element 3 (some .long) 3 ΛX [.ref 0, .int s, .int i] μ (pJ fun r μ2 => r = (s_element s i ν).1 ∧ Rel μ2 (s_element s i ν).2) := by
  refine Ct.go (lo := [some (.ref 0), some (.int s), some (.int i)]) (by decide) (Nat.le_of_ble_eq_true rfl) rfl rfl (fun X F => ?_)
  have F : Fx X cX9_element RX9 3 (some .long) ΛX := F
  obtain ⟨n, hW, hsh, htp, him⟩ := id hM
  have hn := hW.1
  have hn8 := hW.2.1
  have hnn := nn_eq hn hn8
  have ho := hW.own
  have hpw := j_pw hn8
  have hS : SQ μ 1 ν.1 n := ⟨by have := hR.sc; rwa [hnn] at this, hn8⟩
  refine v_iload_n (pc := 0) (i := 1) F dX9_element_0 rfl rfl ?_
  refine v_callSI (pc := 1) (As := [_]) (rest := []) F mX9_isShelf kX9_75 sm_X9_isShelf dX9_element_1 (c_X9_isShelf _ _) (by decide) rfl rfl (Nat.le_of_ble_eq_true rfl) (fun x1 μ1 hp1 => ?_)
  rw [hp1.1, hp1.2]
  refine v_if_ne (pc := 4) (tgt := 9) F dX9_element_4 (by decide) (fun h4_2 => ?_) (fun h4_2 => ?_)
  · rw [b2i_0] at h4_2
    rw [Classical.not_not] at h4_2
    obtain ⟨k_s, hk_s, he_s⟩ := inR_of (by decide) h4_2
    subst he_s
    have ek_s : ix (nI k_s) = k_s := nI_clamp (by omega)
    refine v_aload_n (pc := 9) (i := 0) F dX9_element_9 rfl rfl ?_
    refine v_getR (pc := 10) (o := 103) F fX9_66 dX9_element_10 rfl lx0 ?_
    refine v_topR (y := 103) rfl ?_
    refine v_iload_n (pc := 13) (i := 1) F dX9_element_13 rfl rfl ?_
    refine v_aald15N (pc := 14) (k0 := k_s) (x := 104 + 2 * k_s) F dX9_element_14 (lx9_10 lx0) (rfl) (by omega) (by decide) (by simp only [j_ro]; first | rfl | omega | (split <;> omega)) ?_
    have ho3 : j_ob ΛX (104 + 2 * k_s) 5 := by
      have q := lxS (lx9_10 lx0) (j := k_s) (by omega)
      simp only [j_ro] at q
      exact (by first | exact q | (rw [show 104 + 2 * k_s = _ from (by first | rfl | omega)]; exact q))
    refine v_iload_n (pc := 15) (i := 2) F dX9_element_15 rfl rfl ?_
    refine v_callVJ (pc := 16) (As := [_]) (rest := []) (c := 5) F mX5_elementAt kX9_122 im_X5_elementAt se_X5_elementAt dX9_element_16 rfl rfl (by decide) (c_X5_elementAt _ ho3 _ _ (SF_sz (hR.sf k_s (by omega)) (hsh k_s (by omega)) hn8)) (by decide) rfl rfl (Nat.le_of_ble_eq_true rfl) ho3 (fun x4 μ4 hp4 => ?_)
    rw [hp4.1, hp4.2]
    refine v_lreturn (pc := 19) F dX9_element_19 ?_
    rw [elB_eq (hR.sf k_s (by omega)) (hsh k_s (by omega)) hn8]
    simp only [s_element, hnn, h4_2, ek_s, ↓reduceIte]
    refine ⟨?_, ?_⟩
    · by_cases c1 : inQ 5 (ν.1 10 k_s) = true
      · by_cases c2 : inQ (ix (ν.1 11 k_s)) i = true
        · simp only [c1, c2, ↓reduceIte]
        · simp only [c1, c2, ↓reduceIte, Bool.false_eq_true]
      · simp only [c1, ↓reduceIte, Bool.false_eq_true]
    · by_cases c1 : inQ 5 (ν.1 10 k_s) = true
      · by_cases c2 : inQ (ix (ν.1 11 k_s)) i = true
        · simp only [c1, c2, ↓reduceIte]; exact hR
        · simp only [c1, c2, ↓reduceIte, Bool.false_eq_true]; exact hR
      · simp only [c1, ↓reduceIte, Bool.false_eq_true]; exact hR
  · rw [b2i_0] at h4_2
    refine v_lconst (pc := 7) (v := 0) F dX9_element_7 (by decide) ?_
    refine v_lreturn (pc := 8) F dX9_element_8 ?_
    simp only [s_element, hnn, h4_2, ↓reduceIte]
    refine ⟨?_, ?_⟩ <;> first | exact trivial | exact rfl | exact hR | exact Rel.rj hM hR (by decide)

set_option maxRecDepth 100000 in
theorem c_X9_set (s i : Int32) (v : Int64) (μ ν : j_M) (hM : MI ν) (hR : Rel μ ν) : Ct yX9_set cX9_set 6 (some .int) 3 ΛX [.ref 0, .int s, .int i, .long v] μ (pI fun r μ2 => r = (s_set s i v ν).1 ∧ Rel μ2 (s_set s i v ν).2) := by
  refine Ct.go (lo := [some (.ref 0), some (.int s), some (.int i), some (.long v), none, none]) (by decide) (Nat.le_of_ble_eq_true rfl) rfl rfl (fun X F => ?_)
  have F : Fx X cX9_set RX9 3 (some .int) ΛX := F
  obtain ⟨n, hW, hsh, htp, him⟩ := id hM
  have hn := hW.1
  have hn8 := hW.2.1
  have hnn := nn_eq hn hn8
  have ho := hW.own
  have hpw := j_pw hn8
  have hS : SQ μ 1 ν.1 n := ⟨by have := hR.sc; rwa [hnn] at this, hn8⟩
  refine v_iload_n (pc := 0) (i := 1) F dX9_set_0 rfl rfl ?_
  refine v_callSI (pc := 1) (As := [_]) (rest := []) F mX9_isShelf kX9_75 sm_X9_isShelf dX9_set_1 (c_X9_isShelf _ _) (by decide) rfl rfl (Nat.le_of_ble_eq_true rfl) (fun x1 μ1 hp1 => ?_)
  rw [hp1.1, hp1.2]
  refine v_if_ne (pc := 4) (tgt := 14) F dX9_set_4 (by decide) (fun h4_2 => ?_) (fun h4_2 => ?_)
  · rw [b2i_0] at h4_2
    rw [Classical.not_not] at h4_2
    obtain ⟨k_s, hk_s, he_s⟩ := inR_of (by decide) h4_2
    subst he_s
    have ek_s : ix (nI k_s) = k_s := nI_clamp (by omega)
    refine v_aload_n (pc := 14) (i := 0) F dX9_set_14 rfl rfl ?_
    refine v_getR (pc := 15) (o := 103) F fX9_66 dX9_set_15 rfl lx0 ?_
    refine v_topR (y := 103) rfl ?_
    refine v_iload_n (pc := 18) (i := 1) F dX9_set_18 rfl rfl ?_
    refine v_aald15N (pc := 19) (k0 := k_s) (x := 104 + 2 * k_s) F dX9_set_19 (lx9_10 lx0) (rfl) (by omega) (by decide) (by simp only [j_ro]; first | rfl | omega | (split <;> omega)) ?_
    have ho3 : j_ob ΛX (104 + 2 * k_s) 5 := by
      have q := lxS (lx9_10 lx0) (j := k_s) (by omega)
      simp only [j_ro] at q
      exact (by first | exact q | (rw [show 104 + 2 * k_s = _ from (by first | rfl | omega)]; exact q))
    refine v_astore (pc := 20) (lo' := [some (.ref _), some (.int _), some (.int _), some (.long _), _, some (.ref _)]) F dX9_set_20 rfl (Nat.le_of_ble_eq_true rfl) rfl ?_
    refine v_aload (pc := 22) (i := 5) F dX9_set_22 rfl ?_
    refine v_callVI (pc := 24) (As := []) (rest := []) (c := 5) F mX5_isRow kX9_87 im_X5_isRow se_X5_isRow dX9_set_24 rfl rfl (by decide) (c_X5_isRow _ ho3 _) (by decide) rfl rfl (Nat.le_of_ble_eq_true rfl) ho3 (fun x4 μ4 hp4 => ?_)
    rw [hp4.1, hp4.2]
    rw [(hR.sf k_s (by omega)).1]
    refine v_if_ne (pc := 27) (tgt := 50) F dX9_set_27 (by decide) (fun hro => ?_) (fun hro => ?_)
    · rw [b2i_0] at hro
      rw [Classical.not_not] at hro
      obtain ⟨⟨j5, hj5, hhj⟩, m, hm, hlm⟩ := SH_row (hsh k_s (by omega)) hn8 hro
      have ekm : ix (ν.1 11 k_s) = m := by rw [hlm]; exact ix_nI (by omega)
      have hsz := ((hR.sf k_s (by omega)).2.1 hro).trans hlm
      by_cases hq_i : inQ m i = true
      · skip
        obtain ⟨k_i, hk_i, he_i⟩ := inR_of (by omega) hq_i
        subst he_i
        have ek_i : ix (nI k_i) = k_i := nI_clamp (by omega)
        refine v_iload_n (pc := 50) (i := 2) F dX9_set_50 rfl rfl ?_
        refine v_if_lt (pc := 51) (tgt := 63) F dX9_set_51 (by decide) (fun h51_6 => ?_) (fun h51_6 => ?_)
        · rw [j_lt0 (by omega)] at h51_6
          exact h51_6.elim
        · rw [j_lt0 (by omega)] at h51_6
          refine v_iload_n (pc := 54) (i := 2) F dX9_set_54 rfl rfl ?_
          refine v_aload (pc := 55) (i := 5) F dX9_set_55 rfl ?_
          refine v_getI (pc := 57) F fX9_94 dX9_set_57 rfl ho3 ?_
          refine v_topE (y := nI m) (hsz) ?_
          refine v_icmp_lt (pc := 60) (tgt := 70) F dX9_set_60 (by decide) (fun h60_7 => ?_) (fun h60_7 => ?_)
          · rw [nI_ltI (by omega) (by omega)] at h60_7
            refine v_aload (pc := 70) (i := 5) F dX9_set_70 rfl ?_
            refine v_iload_n (pc := 72) (i := 2) F dX9_set_72 rfl rfl ?_
            refine v_lload_n (pc := 73) (i := 3) F dX9_set_73 rfl rfl ?_
            refine v_callVV (pc := 74) (As := [_, _]) (rest := []) (c := 5) F mX5_put kX9_98 im_X5_put se_X5_put dX9_set_74 rfl rfl (by decide) (c_X5_put _ ho3 k_i (by omega) _ _ j5 hj5 ((hR.sf k_s (by omega)).1.trans hhj)) (by decide) rfl rfl (Nat.le_of_ble_eq_true rfl) ho3 (fun μ8 hp8 => ?_)
            rw [hp8]
            refine v_iconst (pc := 77) (v := nI 1) F dX9_set_77 (by decide) ?_
            refine v_ireturn (pc := 78) F dX9_set_78 (rfl) ?_
            simp only [s_set, hnn, h4_2, ek_s, hro, hq_i, ek_i, ekm, h51_6, h60_7, hro, ↓reduceIte]
            refine ⟨rfl, ?_⟩
            rw [(hR.sf k_s (by omega)).1]
            exact hR.elm hM (by omega) (by omega)
          · rw [nI_ltI (by omega) (by omega)] at h60_7
            omega
      · skip
        refine v_iload_n (pc := 50) (i := 2) F dX9_set_50 rfl rfl ?_
        refine v_if_lt (pc := 51) (tgt := 63) F dX9_set_51 (by decide) (fun hneg_i => ?_) (fun hneg_i => ?_)
        · skip
          refine v_aload_n (pc := 63) (i := 0) F dX9_set_63 rfl rfl ?_
          refine v_bipush (pc := 64) (v := (-2)) F dX9_set_64 (by decide) ?_
          refine v_callVI (pc := 66) (As := [_]) (rest := []) (c := 9) F mX9_refuse kX9_79 im_X9_refuse se_X9_refuse dX9_set_66 rfl rfl (by decide) (c_X9_refuse (-2) 2 (by decide) (by decide) (by decide) _) (by decide) rfl rfl (Nat.le_of_ble_eq_true rfl) lx0 (fun x10 μ10 hp10 => ?_)
          rw [hp10.1, hp10.2]
          refine v_ireturn (pc := 69) F dX9_set_69 (rfl) ?_
          simp only [s_set, rj, hnn, h4_2, ek_s, hro, hq_i, ekm, hneg_i, ↓reduceIte]
          refine ⟨?_, ?_⟩ <;> first | exact trivial | exact rfl | exact hR | exact Rel.rj hM hR (by decide)
        · skip
          refine v_iload_n (pc := 54) (i := 2) F dX9_set_54 rfl rfl ?_
          refine v_aload (pc := 55) (i := 5) F dX9_set_55 rfl ?_
          refine v_getI (pc := 57) F fX9_94 dX9_set_57 rfl ho3 ?_
          refine v_topE (y := nI m) (hsz) ?_
          refine v_icmp_lt (pc := 60) (tgt := 70) F dX9_set_60 (by decide) (fun h60_11 => ?_) (fun h60_11 => ?_)
          · skip
            exact (inQ_no hq_i hneg_i h60_11).elim
          · skip
            refine v_aload_n (pc := 63) (i := 0) F dX9_set_63 rfl rfl ?_
            refine v_bipush (pc := 64) (v := (-2)) F dX9_set_64 (by decide) ?_
            refine v_callVI (pc := 66) (As := [_]) (rest := []) (c := 9) F mX9_refuse kX9_79 im_X9_refuse se_X9_refuse dX9_set_66 rfl rfl (by decide) (c_X9_refuse (-2) 2 (by decide) (by decide) (by decide) _) (by decide) rfl rfl (Nat.le_of_ble_eq_true rfl) lx0 (fun x12 μ12 hp12 => ?_)
            rw [hp12.1, hp12.2]
            refine v_ireturn (pc := 69) F dX9_set_69 (rfl) ?_
            simp only [s_set, rj, hnn, h4_2, ek_s, hro, hq_i, ekm, hneg_i, h60_11, ↓reduceIte]
            refine ⟨?_, ?_⟩ <;> first | exact trivial | exact rfl | exact hR | exact Rel.rj hM hR (by decide)
    · rw [b2i_0] at hro
      refine v_aload_n (pc := 30) (i := 0) F dX9_set_30 rfl rfl ?_
      refine v_aload (pc := 31) (i := 5) F dX9_set_31 rfl ?_
      refine v_callVI (pc := 33) (As := []) (rest := [_]) (c := 5) F mX5_isNothing kX9_91 im_X5_isNothing se_X5_isNothing dX9_set_33 rfl rfl (by decide) (c_X5_isNothing _ ho3 _) (by decide) rfl rfl (Nat.le_of_ble_eq_true rfl) ho3 (fun x13 μ13 hp13 => ?_)
      rw [hp13.1, hp13.2]
      rw [(hR.sf k_s (by omega)).1]
      refine v_if_eq (pc := 36) (tgt := 44) F dX9_set_36 (by decide) (fun hno => ?_) (fun hno => ?_)
      · rw [b2i_0] at hno
        refine v_bipush (pc := 44) (v := (-3)) F dX9_set_44 (by decide) ?_
        refine v_callVI (pc := 46) (As := [_]) (rest := []) (c := 9) F mX9_refuse kX9_79 im_X9_refuse se_X9_refuse dX9_set_46 rfl rfl (by decide) (c_X9_refuse (-3) 3 (by decide) (by decide) (by decide) _) (by decide) rfl rfl (Nat.le_of_ble_eq_true rfl) lx0 (fun x15 μ15 hp15 => ?_)
        rw [hp15.1, hp15.2]
        refine v_ireturn (pc := 49) F dX9_set_49 (rfl) ?_
        simp only [s_set, rj, hnn, h4_2, ek_s, hro, hno, ↓reduceIte]
        refine ⟨?_, ?_⟩ <;> first | exact trivial | exact rfl | exact hR | exact Rel.rj hM hR (by decide)
      · rw [b2i_0] at hno
        rw [Classical.not_not] at hno
        refine v_bipush (pc := 39) (v := (-4)) F dX9_set_39 (by decide) ?_
        refine v_goto (pc := 41) (tgt := 46) F dX9_set_41 (by decide) ?_
        refine v_callVI (pc := 46) (As := [_]) (rest := []) (c := 9) F mX9_refuse kX9_79 im_X9_refuse se_X9_refuse dX9_set_46 rfl rfl (by decide) (c_X9_refuse (-4) 4 (by decide) (by decide) (by decide) _) (by decide) rfl rfl (Nat.le_of_ble_eq_true rfl) lx0 (fun x16 μ16 hp16 => ?_)
        rw [hp16.1, hp16.2]
        refine v_ireturn (pc := 49) F dX9_set_49 (rfl) ?_
        simp only [s_set, rj, hnn, h4_2, ek_s, hro, hno, ↓reduceIte]
        refine ⟨?_, ?_⟩ <;> first | exact trivial | exact rfl | exact hR | exact Rel.rj hM hR (by decide)
  · rw [b2i_0] at h4_2
    refine v_aload_n (pc := 7) (i := 0) F dX9_set_7 rfl rfl ?_
    refine v_bipush (pc := 8) (v := (-2)) F dX9_set_8 (by decide) ?_
    refine v_callVI (pc := 10) (As := [_]) (rest := []) (c := 9) F mX9_refuse kX9_79 im_X9_refuse se_X9_refuse dX9_set_10 rfl rfl (by decide) (c_X9_refuse (-2) 2 (by decide) (by decide) (by decide) _) (by decide) rfl rfl (Nat.le_of_ble_eq_true rfl) lx0 (fun x17 μ17 hp17 => ?_)
    rw [hp17.1, hp17.2]
    refine v_ireturn (pc := 13) F dX9_set_13 (rfl) ?_
    simp only [s_set, rj, hnn, h4_2, ↓reduceIte]
    refine ⟨?_, ?_⟩ <;> first | exact trivial | exact rfl | exact hR | exact Rel.rj hM hR (by decide)

set_option maxRecDepth 100000 in
theorem c_X9_show (s l : Int32) (μ ν : j_M) (hM : MI ν) (hR : Rel μ ν) : Ct yX9_show cX9_show 3 (some .int) 2 ΛX [.ref 0, .int s, .int l] μ (pI fun r μ2 => r = (s_show s l ν).1 ∧ Rel μ2 (s_show s l ν).2) := by
  refine Ct.go (lo := [some (.ref 0), some (.int s), some (.int l)]) (by decide) (Nat.le_of_ble_eq_true rfl) rfl rfl (fun X F => ?_)
  have F : Fx X cX9_show RX9 2 (some .int) ΛX := F
  obtain ⟨n, hW, hsh, htp, him⟩ := id hM
  have hn := hW.1
  have hn8 := hW.2.1
  have hnn := nn_eq hn hn8
  have ho := hW.own
  have hpw := j_pw hn8
  have hS : SQ μ 1 ν.1 n := ⟨by have := hR.sc; rwa [hnn] at this, hn8⟩
  refine v_iload_n (pc := 0) (i := 1) F dX9_show_0 rfl rfl ?_
  refine v_callSI (pc := 1) (As := [_]) (rest := []) F mX9_isShelf kX9_75 sm_X9_isShelf dX9_show_1 (c_X9_isShelf _ _) (by decide) rfl rfl (Nat.le_of_ble_eq_true rfl) (fun x1 μ1 hp1 => ?_)
  rw [hp1.1, hp1.2]
  refine v_if_eq (pc := 4) (tgt := 20) F dX9_show_4 (by decide) (fun h4_2 => ?_) (fun h4_2 => ?_)
  · rw [b2i_0] at h4_2
    refine v_aload_n (pc := 20) (i := 0) F dX9_show_20 rfl rfl ?_
    refine v_bipush (pc := 21) (v := (-2)) F dX9_show_21 (by decide) ?_
    refine v_callVI (pc := 23) (As := [_]) (rest := []) (c := 9) F mX9_refuse kX9_79 im_X9_refuse se_X9_refuse dX9_show_23 rfl rfl (by decide) (c_X9_refuse (-2) 2 (by decide) (by decide) (by decide) _) (by decide) rfl rfl (Nat.le_of_ble_eq_true rfl) lx0 (fun x3 μ3 hp3 => ?_)
    rw [hp3.1, hp3.2]
    refine v_ireturn (pc := 26) F dX9_show_26 (rfl) ?_
    simp only [s_show, rj, hnn, h4_2, ↓reduceIte]
    refine ⟨?_, ?_⟩ <;> first | exact trivial | exact rfl | exact hR | exact Rel.rj hM hR (by decide)
  · rw [b2i_0] at h4_2
    rw [Classical.not_not] at h4_2
    obtain ⟨k_s, hk_s, he_s⟩ := inR_of (by decide) h4_2
    subst he_s
    have ek_s : ix (nI k_s) = k_s := nI_clamp (by omega)
    refine v_iload_n (pc := 7) (i := 2) F dX9_show_7 rfl rfl ?_
    refine v_iconst (pc := 8) (v := (-1)) F dX9_show_8 (by decide) ?_
    refine v_icmp_eq (pc := 9) (tgt := 27) F dX9_show_9 (by decide) (fun h9 => ?_) (fun h9 => ?_)
    · skip
      subst h9
      refine v_iload_n (pc := 27) (i := 2) F dX9_show_27 rfl rfl ?_
      refine v_iconst (pc := 28) (v := (-1)) F dX9_show_28 (by decide) ?_
      refine v_icmp_ne (pc := 29) (tgt := 44) F dX9_show_29 (by decide) (fun h29_5 => ?_) (fun h29_5 => ?_)
      · skip
        exact absurd rfl h29_5
      · skip
        refine v_aload_n (pc := 32) (i := 0) F dX9_show_32 rfl rfl ?_
        refine v_getR (pc := 33) (o := 103) F fX9_66 dX9_show_33 rfl lx0 ?_
        refine v_topR (y := 103) rfl ?_
        refine v_iload_n (pc := 36) (i := 1) F dX9_show_36 rfl rfl ?_
        refine v_aald15N (pc := 37) (k0 := k_s) (x := 104 + 2 * k_s) F dX9_show_37 (lx9_10 lx0) (rfl) (by omega) (by decide) (by simp only [j_ro]; first | rfl | omega | (split <;> omega)) ?_
        have ho6 : j_ob ΛX (104 + 2 * k_s) 5 := by
          have q := lxS (lx9_10 lx0) (j := k_s) (by omega)
          simp only [j_ro] at q
          exact (by first | exact q | (rw [show 104 + 2 * k_s = _ from (by first | rfl | omega)]; exact q))
        refine v_callVV (pc := 38) (As := []) (rest := []) (c := 5) F mX5_holdNothing kX9_128 im_X5_holdNothing se_X5_holdNothing dX9_show_38 rfl rfl (by decide) (c_X5_holdNothing _ ho6 _) (by decide) rfl rfl (Nat.le_of_ble_eq_true rfl) ho6 (fun μ7 hp7 => ?_)
        rw [hp7]
        refine v_goto (pc := 41) (tgt := 54) F dX9_show_41 (by decide) ?_
        refine v_iconst (pc := 54) (v := nI 1) F dX9_show_54 (by decide) ?_
        refine v_ireturn (pc := 55) F dX9_show_55 (rfl) ?_
        simp only [s_show, hnn, h4_2, ek_s, h29_5, ↓reduceIte]
        refine ⟨rfl, ?_⟩
        exact hR.hold hM (by omega) (by first | decide | (intro z; obtain ⟨k0, q1, q2⟩ := inR_of (by decide) z; have := (nI_eq (by omega) (by omega)).mp q2; omega))
    · skip
      refine v_aload_n (pc := 12) (i := 0) F dX9_show_12 rfl rfl ?_
      refine v_iload_n (pc := 13) (i := 2) F dX9_show_13 rfl rfl ?_
      refine v_callVI (pc := 14) (As := [_]) (rest := []) (c := 9) F mX9_isLooker kX9_126 im_X9_isLooker se_X9_isLooker dX9_show_14 rfl rfl (by decide) (c_X9_isLooker _ n ν.1 _ (hS)) (by decide) rfl rfl (Nat.le_of_ble_eq_true rfl) lx0 (fun x8 μ8 hp8 => ?_)
      rw [hp8.1, hp8.2]
      refine v_if_ne (pc := 17) (tgt := 27) F dX9_show_17 (by decide) (fun h17_9 => ?_) (fun h17_9 => ?_)
      · rw [b2i_0] at h17_9
        rw [Classical.not_not] at h17_9
        obtain ⟨k_l, hk_l, he_l⟩ := inR_of (by omega) h17_9
        subst he_l
        have ek_l : ix (nI k_l) = k_l := nI_clamp (by omega)
        refine v_iload_n (pc := 27) (i := 2) F dX9_show_27 rfl rfl ?_
        refine v_iconst (pc := 28) (v := (-1)) F dX9_show_28 (by decide) ?_
        refine v_icmp_ne (pc := 29) (tgt := 44) F dX9_show_29 (by decide) (fun h29_10 => ?_) (fun h29_10 => ?_)
        · rw [j_nm1 (by omega)] at h29_10
          refine v_aload_n (pc := 44) (i := 0) F dX9_show_44 rfl rfl ?_
          refine v_getR (pc := 45) (o := 103) F fX9_66 dX9_show_45 rfl lx0 ?_
          refine v_topR (y := 103) rfl ?_
          refine v_iload_n (pc := 48) (i := 1) F dX9_show_48 rfl rfl ?_
          refine v_aald15N (pc := 49) (k0 := k_s) (x := 104 + 2 * k_s) F dX9_show_49 (lx9_10 lx0) (rfl) (by omega) (by decide) (by simp only [j_ro]; first | rfl | omega | (split <;> omega)) ?_
          have ho11 : j_ob ΛX (104 + 2 * k_s) 5 := by
            have q := lxS (lx9_10 lx0) (j := k_s) (by omega)
            simp only [j_ro] at q
            exact (by first | exact q | (rw [show 104 + 2 * k_s = _ from (by first | rfl | omega)]; exact q))
          refine v_iload_n (pc := 50) (i := 2) F dX9_show_50 rfl rfl ?_
          refine v_callVV (pc := 51) (As := [_]) (rest := []) (c := 5) F mX5_holdLooker kX9_131 im_X5_holdLooker se_X5_holdLooker dX9_show_51 rfl rfl (by decide) (c_X5_holdLooker _ ho11 k_l _) (by decide) rfl rfl (Nat.le_of_ble_eq_true rfl) ho11 (fun μ12 hp12 => ?_)
          rw [hp12]
          refine v_iconst (pc := 54) (v := nI 1) F dX9_show_54 (by decide) ?_
          refine v_ireturn (pc := 55) F dX9_show_55 (rfl) ?_
          simp only [s_show, hnn, h4_2, ek_s, h9, h17_9, ek_l, h29_10, ↓reduceIte]
          refine ⟨rfl, ?_⟩
          exact hR.hold hM (by omega) (by first | decide | (intro z; obtain ⟨k0, q1, q2⟩ := inR_of (by decide) z; have := (nI_eq (by omega) (by omega)).mp q2; omega))
        · rw [j_nm1 (by omega)] at h29_10
          exact h29_10.elim
      · rw [b2i_0] at h17_9
        refine v_aload_n (pc := 20) (i := 0) F dX9_show_20 rfl rfl ?_
        refine v_bipush (pc := 21) (v := (-2)) F dX9_show_21 (by decide) ?_
        refine v_callVI (pc := 23) (As := [_]) (rest := []) (c := 9) F mX9_refuse kX9_79 im_X9_refuse se_X9_refuse dX9_show_23 rfl rfl (by decide) (c_X9_refuse (-2) 2 (by decide) (by decide) (by decide) _) (by decide) rfl rfl (Nat.le_of_ble_eq_true rfl) lx0 (fun x13 μ13 hp13 => ?_)
        rw [hp13.1, hp13.2]
        refine v_ireturn (pc := 26) F dX9_show_26 (rfl) ?_
        simp only [s_show, rj, hnn, h4_2, ek_s, h9, h17_9, ↓reduceIte]
        refine ⟨?_, ?_⟩ <;> first | exact trivial | exact rfl | exact hR | exact Rel.rj hM hR (by decide)
