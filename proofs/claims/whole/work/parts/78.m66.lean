/-! the class: the window -/
theorem SQ_wip {μ : j_M} {b n j : Nat} {ν : j_M} {v : Int32} (h : SQ μ b ν.1 n) (hj : ¬ j = 9 ∧ ¬ j = 10) : SQ μ b (j_pI ν 0 j v).1 n := ⟨h.1.w2 (fun p _ => j_pI_off (by omega)) (fun c l h1 _ _ => j_pI_off (by omega)) (fun j _ => j_pI_off (by omega)) (j_pI_off (by omega)) (j_pI_off (by omega)), h.2⟩
theorem nn_wip {ν : j_M} {v : Int32} : nn (j_pI ν 0 11 v) = nn ν := by
  show ix ((j_pI ν 0 11 v).1 0 1) = _
  rw [j_pI_off (by omega)]
theorem win_Fm {ν q : j_M} (h : Fm PG ν q) : Fm PWd (j_pI ν 0 11 (nI 0)) (j_pI q 0 11 (nI 0)) := ⟨fun c j z => by
  by_cases e : c = 0 ∧ j = 11
  · obtain ⟨rfl, rfl⟩ := e
    rw [j_pI_at, j_pI_at]
  · rw [j_pI_off e, j_pI_off e]
    exact h.1 c j (by omega), h.2⟩

set_option maxRecDepth 100000 in
theorem c_X9_window  (μ ν : j_M) (hM : MI ν) (hR : Rel μ ν) : Ct yX9_window cX9_window 3 (some .int) 9 ΛX [.ref 0] μ (pI fun r μ2 => r = (s_window ν).1 ∧ Rel μ2 (s_window ν).2) := by
  refine Ct.go (lo := [some (.ref 0), none, none]) (by decide) (Nat.le_of_ble_eq_true rfl) rfl rfl (fun X F => ?_)
  have F : Fx X cX9_window RX9 9 (some .int) ΛX := F
  obtain ⟨n, hW, hsh, htp, him⟩ := id hM
  have hn := hW.1
  have hn8 := hW.2.1
  have hnn := nn_eq hn hn8
  have ho := hW.own
  have hpw := j_pw hn8
  have hS : SQ μ 1 ν.1 n := ⟨by have := hR.sc; rwa [hnn] at this, hn8⟩
  obtain ⟨t, ht2, ht⟩ := htp
  have ekt : ix (ν.1 0 11) = t := by rw [ht]; exact ix_nI (by omega)
  refine v_aload_n (pc := 0) (i := 0) F dX9_window_0 rfl rfl ?_
  refine v_getR (pc := 1) (o := 22) F fX9_16 dX9_window_1 rfl lx0 ?_
  refine v_topR (y := 22) rfl ?_
  refine v_aload_n (pc := 4) (i := 0) F dX9_window_4 rfl rfl ?_
  refine v_getR (pc := 5) (o := 1) F fX9_12 dX9_window_5 rfl lx0 ?_
  refine v_topR (y := 1) rfl ?_
  refine v_callVV (pc := 8) (As := [_]) (rest := []) (c := 4) F mX4_become kX9_213 im_X4_become se_X4_become dX9_window_8 rfl rfl (by decide) (c_X4_become 22 (lx9_1 lx0) 1 (lx9_0 lx0) n ν.1 _ (hS) (by omega)) (by decide) rfl rfl (Nat.le_of_ble_eq_true rfl) (lx9_1 lx0) (fun μ1 hp1 => ?_)
  skip
  refine v_aload_n (pc := 11) (i := 0) F dX9_window_11 rfl rfl ?_
  refine v_getR (pc := 12) (o := 101) F fX9_60 dX9_window_12 rfl lx0 ?_
  refine v_topR (y := 101) rfl ?_
  refine v_aload_n (pc := 15) (i := 0) F dX9_window_15 rfl rfl ?_
  refine v_getR (pc := 16) (o := 22) F fX9_16 dX9_window_16 rfl lx0 ?_
  refine v_topR (y := 22) rfl ?_
  refine v_callVI (pc := 19) (As := [_]) (rest := []) (c := 7) F mX7_read kX9_217 im_X7_read se_X7_read dX9_window_19 rfl rfl (by decide) (c_X7_read 101 (lx9_9 lx0) 22 (lx9_1 lx0) (by omega) (ν.1 9) t _ ν (fun j hj => (hp1.2.1 _ _ (by omega)).trans (hR.tq.2 j (by omega))) ((hp1.2.1 _ _ (by omega)).trans (hR.tq.1.trans ht)) ht2 (by rw [hnn]; exact hp1.1) hW.t (by rw [hnn]; exact hn)) (by decide) rfl rfl (Nat.le_of_ble_eq_true rfl) (lx9_9 lx0) (fun x2 μ2 hp2 => ?_)
  skip
  rcases hw : wlS (ν.1 9) t f251 0 0 ν with g | q
  · skip
    have hR3 := (((hR.X hM hp1.2 (fun c j z => by omega))).X hM hp2.1 (fun c j z => by omega)).wip (v := nI 0) hM
    have hrd := hp2
    rw [hw] at hrd
    have hgt : g ≤ t := hrd.2.1
    have hfv : μ2.1 101 3 = nI g := hrd.2.2
    have hsp : s_window ν = ((-20) - nI g, j_pI (j_pI ν 0 11 (nI 0)) 13 2 (ν.1 13 2 + 1)) := by
      unfold s_window
      rw [ekt, hw]
    refine v_istore_n (pc := 22) (lo' := [some (.ref _), some (.int _), _]) F dX9_window_22 rfl rfl (Nat.le_of_ble_eq_true rfl) rfl ?_
    refine v_aload_n (pc := 23) (i := 0) F dX9_window_23 rfl rfl ?_
    refine v_getR (pc := 24) (o := 101) F fX9_60 dX9_window_24 rfl lx0 ?_
    refine v_topR (y := 101) rfl ?_
    refine v_getI (pc := 27) F fX9_221 dX9_window_27 rfl (lx9_9 lx0) ?_
    refine v_topE (y := nI g) (hfv) ?_
    refine v_istore_n (pc := 30) (lo' := [some (.ref _), some (.int _), some (.int _)]) F dX9_window_30 rfl rfl (Nat.le_of_ble_eq_true rfl) rfl ?_
    refine v_aload_n (pc := 31) (i := 0) F dX9_window_31 rfl rfl ?_
    refine v_getR (pc := 32) (o := 101) F fX9_60 dX9_window_32 rfl lx0 ?_
    refine v_topR (y := 101) rfl ?_
    refine v_callVV (pc := 35) (As := []) (rest := []) (c := 7) F mX7_clear kX9_210 im_X7_clear se_X7_clear dX9_window_35 rfl rfl (by decide) (c_X7_clear _ (lx9_9 lx0) _) (by decide) rfl rfl (Nat.le_of_ble_eq_true rfl) (lx9_9 lx0) (fun μ3 hp3 => ?_)
    rw [hp3]
    refine v_iload_n (pc := 38) (i := 2) F dX9_window_38 rfl rfl ?_
    refine v_iconst (pc := 39) (v := (-1)) F dX9_window_39 (by decide) ?_
    refine v_icmp_eq (pc := 40) (tgt := 55) F dX9_window_40 (by decide) (fun h40_4 => ?_) (fun h40_4 => ?_)
    · rw [j_nm1 (by omega)] at h40_4
      exact h40_4.elim
    · rw [j_nm1 (by omega)] at h40_4
      refine v_aload_n (pc := 43) (i := 0) F dX9_window_43 rfl rfl ?_
      refine v_bipush (pc := 44) (v := (-2)) F dX9_window_44 (by decide) ?_
      refine v_callVI (pc := 46) (As := [_]) (rest := []) (c := 9) F mX9_refuse kX9_79 im_X9_refuse se_X9_refuse dX9_window_46 rfl rfl (by decide) (c_X9_refuse (-2) 2 (by decide) (by decide) (by decide) _) (by decide) rfl rfl (Nat.le_of_ble_eq_true rfl) lx0 (fun x5 μ5 hp5 => ?_)
      rw [hp5.1, hp5.2]
      refine v_pop (pc := 49) F dX9_window_49 rfl ?_
      refine v_bipush (pc := 50) (v := (-20)) F dX9_window_50 (by decide) ?_
      refine v_iload_n (pc := 52) (i := 2) F dX9_window_52 rfl rfl ?_
      refine v_isub (pc := 53) F dX9_window_53 ?_
      refine v_ireturn (pc := 54) F dX9_window_54 (rfl) ?_
      rw [hsp]
      refine ⟨rfl, ?_⟩
      have q := Rel.rj (k := 2) (MI_wip hM) hR3 (by decide)
      rw [show (j_pI ν 0 11 (nI 0)).1 13 2 = ν.1 13 2 from j_pI_off (by omega)] at q
      exact q
  · skip
    have hR3 := (((hR.X hM hp1.2 (fun c j z => by omega))).X hM hp2.1 (fun c j z => by omega)).wip (v := nI 0) hM
    have hrd := hp2
    rw [hw] at hrd
    obtain ⟨-, r1, r2, r3, r4, r5⟩ := hrd
    have hfv : μ2.1 101 3 = -1 := r2
    have hsp : s_window ν = (nI q.1, j_pI q.2 0 11 (nI 0)) := by
      unfold s_window
      rw [ekt, hw]
    rw [r1]
    have r6 : SQ (j_pI μ2 101 1 (nI 0)) 22 (j_pI q.2 0 11 (nI 0)).1 (nn q.2) := SQ_wip (SQ_pI r3 (by omega)) (by omega)
    refine v_istore_n (pc := 22) (lo' := [some (.ref _), some (.int _), _]) F dX9_window_22 rfl rfl (Nat.le_of_ble_eq_true rfl) rfl ?_
    refine v_aload_n (pc := 23) (i := 0) F dX9_window_23 rfl rfl ?_
    refine v_getR (pc := 24) (o := 101) F fX9_60 dX9_window_24 rfl lx0 ?_
    refine v_topR (y := 101) rfl ?_
    refine v_getI (pc := 27) F fX9_221 dX9_window_27 rfl (lx9_9 lx0) ?_
    refine v_topE (y := (-1)) (hfv) ?_
    refine v_istore_n (pc := 30) (lo' := [some (.ref _), some (.int _), some (.int _)]) F dX9_window_30 rfl rfl (Nat.le_of_ble_eq_true rfl) rfl ?_
    refine v_aload_n (pc := 31) (i := 0) F dX9_window_31 rfl rfl ?_
    refine v_getR (pc := 32) (o := 101) F fX9_60 dX9_window_32 rfl lx0 ?_
    refine v_topR (y := 101) rfl ?_
    refine v_callVV (pc := 35) (As := []) (rest := []) (c := 7) F mX7_clear kX9_210 im_X7_clear se_X7_clear dX9_window_35 rfl rfl (by decide) (c_X7_clear _ (lx9_9 lx0) _) (by decide) rfl rfl (Nat.le_of_ble_eq_true rfl) (lx9_9 lx0) (fun μ6 hp6 => ?_)
    rw [hp6]
    refine v_iload_n (pc := 38) (i := 2) F dX9_window_38 rfl rfl ?_
    refine v_iconst (pc := 39) (v := (-1)) F dX9_window_39 (by decide) ?_
    refine v_icmp_eq (pc := 40) (tgt := 55) F dX9_window_40 (by decide) (fun h40_7 => ?_) (fun h40_7 => ?_)
    · skip
      refine v_aload_n (pc := 55) (i := 0) F dX9_window_55 rfl rfl ?_
      refine v_getR (pc := 56) (o := 1) F fX9_12 dX9_window_56 rfl lx0 ?_
      refine v_topR (y := 1) rfl ?_
      refine v_aload_n (pc := 59) (i := 0) F dX9_window_59 rfl rfl ?_
      refine v_getR (pc := 60) (o := 22) F fX9_16 dX9_window_60 rfl lx0 ?_
      refine v_topR (y := 22) rfl ?_
      refine v_callVV (pc := 63) (As := [_]) (rest := []) (c := 4) F mX4_become kX9_213 im_X4_become se_X4_become dX9_window_63 rfl rfl (by decide) (c_X4_become 1 (lx9_0 lx0) 22 (lx9_1 lx0) (nn q.2) ((j_pI q.2 0 11 (nI 0)).1) _ (r6) (by omega)) (by decide) rfl rfl (Nat.le_of_ble_eq_true rfl) (lx9_0 lx0) (fun μ8 hp8 => ?_)
      skip
      refine v_iload_n (pc := 66) (i := 1) F dX9_window_66 rfl rfl ?_
      refine v_ireturn (pc := 67) F dX9_window_67 (rfl) ?_
      rw [hsp]
      exact ⟨rfl, hR3.wrl (MI_wip hM) hp8.1 nn_wip hp8.2 (fun c j z => Or.inl z) (win_Fm r4)⟩
    · skip
      exact absurd rfl h40_7
