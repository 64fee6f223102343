/-! the class: chances -/
theorem al_s1 {l : Nat} (h : l < 2 ^ 31) : alK (-1) (l + 1) = alK (-1) l * 12 := al_f (j_m1 h)
theorem al_pos {m : Nat} (h : m ≤ 8) : 0 < alK (-1) m := by
  have : ∀ m, m < 9 → 0 < alK (-1) m := by decide +kernel
  exact this m (by omega)
theorem al_one {l n : Nat} (hl : l < n) (hn : n ≤ 8) : alK (-1) (n - 1) = alK (nI l) n := by
  have : ∀ n, n < 9 → ∀ l, l < n → alK (-1) (n - 1) = alK (nI l) n := by decide +kernel
  exact this n (by omega) l hl
theorem lf_tb {u : Nat → Int32} {p : Nat} (hp : p < 12) : (tb (lfB u) p = true) = (¬ u p = -1) := by
  unfold lfB
  rw [tb_bK12, decide_eq_true hp, Bool.true_and]
  simp

set_option maxRecDepth 100000 in
theorem c_X0_waysOf (b : Nat) (hb : j_ob ΛX b 4) (n : Nat) (w : Nat → Nat → Int32) (μ : j_M) (hS : SQ μ b w n) (set sk : Int32) : Ct yX0_waysOf cX0_waysOf 7 (some .long) 0 ΛX [.ref b, .int set, .int sk] μ (pJ fun r μ2 => r = wyK (w 6) set sk n ∧ μ2 = μ) := by
  refine Ct.go (lo := [some (.ref b), some (.int set), some (.int sk), none, none, none, none]) (by decide) (Nat.le_of_ble_eq_true rfl) rfl rfl (fun X F => ?_)
  have F : Fx X cX0_waysOf RX0 0 (some .long) ΛX := F
  have hn8 := hS.2
  refine v_lconst (pc := 0) (v := 1) F dX0_waysOf_0 (by decide) ?_
  refine v_lstore_n (pc := 1) (lo' := [some (.ref _), some (.int _), some (.int _), some (.long _), _, _, _]) F dX0_waysOf_1 rfl rfl (Nat.le_of_ble_eq_true rfl) rfl ?_
  refine v_iconst (pc := 2) (v := nI 0) F dX0_waysOf_2 (by decide) ?_
  refine v_istore (pc := 3) (lo' := [some (.ref _), some (.int _), some (.int _), some (.long _), _, some (.int _), _]) F dX0_waysOf_3 rfl (Nat.le_of_ble_eq_true rfl) rfl ?_
  refine j_up n (fun k => V X _ 5 [some (.ref b), some (.int set), some (.int sk), some (.long ((wyK (w 6) set sk k))), none, some (.int (nI k)), none] [] μ) (fun k hk ih => ?_) 0 (Nat.zero_le _)
  refine v_iload (pc := 5) (i := 5) F dX0_waysOf_5 rfl ?_
  refine v_aload_n (pc := 7) (i := 0) F dX0_waysOf_7 rfl rfl ?_
  refine v_getI (pc := 8) F fX0_18 dX0_waysOf_8 rfl hb ?_
  refine v_topE (y := nI n) (hS.1.cnt) ?_
  refine v_icmp_ge (pc := 11) (tgt := 62) F dX0_waysOf_11 (by decide) (fun h11_1 => ?_) (fun h11_1 => ?_)
  · rw [nI_leI (by omega) (by omega)] at h11_1
    refine v_lload_n (pc := 62) (i := 3) F dX0_waysOf_62 rfl rfl ?_
    refine v_lreturn (pc := 63) F dX0_waysOf_63 ?_
    have e : k = n := by omega
    subst e
    exact ⟨rfl, rfl⟩
  · rw [nI_leI (by omega) (by omega)] at h11_1
    refine v_iload (pc := 14) (i := 5) F dX0_waysOf_14 rfl ?_
    refine v_iload_n (pc := 16) (i := 2) F dX0_waysOf_16 rfl rfl ?_
    refine v_icmp_eq (pc := 17) (tgt := 56) F dX0_waysOf_17 (by decide) (fun hsk => ?_) (fun hsk => ?_)
    · skip
      refine v_iinc (pc := 56) (i := 5) (v := nI (k + 1)) (lo' := [some (.ref _), some (.int _), some (.int _), some (.long _), _, some (.int _), _]) F dX0_waysOf_56 rfl (j_inc _) rfl rfl ?_
      refine v_goto (pc := 59) (tgt := 5) F dX0_waysOf_59 (by decide) ?_
      have q := ih (by omega)
      rw [wy_s hsk] at q
      exact q
    · skip
      refine v_aload_n (pc := 20) (i := 0) F dX0_waysOf_20 rfl rfl ?_
      refine v_getR (pc := 21) (o := 3) F fX0_24 dX0_waysOf_21 rfl hb ?_
      refine v_topR (y := b + 3) rfl ?_
      refine v_iload (pc := 24) (i := 5) F dX0_waysOf_24 rfl ?_
      refine v_aald14N (pc := 26) (k0 := k) (x := b + 5 + 2 * k) F dX0_waysOf_26 (lx4_2 hb) (rfl) (by omega) (by decide) (by simp only [j_ro]; first | rfl | omega | (split <;> omega)) ?_
      have ho3 : j_ob ΛX (b + 5 + 2 * k) 3 := by
        have q := lxL (lx4_2 hb) (j := k) (by omega)
        simp only [j_ro] at q
        exact (by first | exact q | (rw [show b + 5 + 2 * k = _ from (by first | rfl | omega)]; exact q))
      refine v_getI (pc := 27) F fX0_28 dX0_waysOf_27 rfl ho3 ?_
      refine v_topE (y := (w 6 k)) ((hS.1.lk k (by omega)).c) ?_
      refine v_istore (pc := 30) (lo' := [some (.ref _), some (.int _), some (.int _), some (.long _), _, some (.int _), some (.int _)]) F dX0_waysOf_30 rfl (Nat.le_of_ble_eq_true rfl) rfl ?_
      refine v_lload_n (pc := 32) (i := 3) F dX0_waysOf_32 rfl rfl ?_
      refine v_iload_n (pc := 33) (i := 1) F dX0_waysOf_33 rfl rfl ?_
      refine v_iload (pc := 34) (i := 5) F dX0_waysOf_34 rfl ?_
      refine v_ishr (pc := 36) F dX0_waysOf_36 ?_
      refine v_iconst (pc := 37) (v := nI 1) F dX0_waysOf_37 (by decide) ?_
      refine v_iand (pc := 38) F dX0_waysOf_38 ?_
      refine v_if_eq (pc := 39) (tgt := 48) F dX0_waysOf_39 (by decide) (fun hb => ?_) (fun hb => ?_)
      · rw [tb_if (by omega)] at hb
        refine v_bipush (pc := 48) (v := nI 12) F dX0_waysOf_48 (by decide) ?_
        refine v_iload (pc := 50) (i := 6) F dX0_waysOf_50 rfl ?_
        refine v_isub (pc := 52) F dX0_waysOf_52 ?_
        refine v_i2l (pc := 53) F dX0_waysOf_53 ?_
        refine v_lmul (pc := 54) F dX0_waysOf_54 ?_
        refine v_lstore_n (pc := 55) (lo' := [some (.ref _), some (.int _), some (.int _), some (.long _), _, some (.int _), some (.int _)]) F dX0_waysOf_55 rfl rfl (Nat.le_of_ble_eq_true rfl) rfl ?_
        refine v_iinc (pc := 56) (i := 5) (v := nI (k + 1)) (lo' := [some (.ref _), some (.int _), some (.int _), some (.long _), _, some (.int _), some (.int _)]) F dX0_waysOf_56 rfl (j_inc _) rfl rfl ?_
        refine v_goto (pc := 59) (tgt := 5) F dX0_waysOf_59 (by decide) ?_
        refine v_drop (i := 6) (lo' := [some (.ref _), some (.int _), some (.int _), some (.long _), _, some (.int _), _]) rfl ?_
        have q := ih (by omega)
        rw [wy_f hsk hb] at q
        exact q
      · rw [tb_if (by omega)] at hb
        rw [Classical.not_not] at hb
        refine v_iload (pc := 42) (i := 6) F dX0_waysOf_42 rfl ?_
        refine v_i2l (pc := 44) F dX0_waysOf_44 ?_
        refine v_goto (pc := 45) (tgt := 54) F dX0_waysOf_45 (by decide) ?_
        refine v_lmul (pc := 54) F dX0_waysOf_54 ?_
        refine v_lstore_n (pc := 55) (lo' := [some (.ref _), some (.int _), some (.int _), some (.long _), _, some (.int _), some (.int _)]) F dX0_waysOf_55 rfl rfl (Nat.le_of_ble_eq_true rfl) rfl ?_
        refine v_iinc (pc := 56) (i := 5) (v := nI (k + 1)) (lo' := [some (.ref _), some (.int _), some (.int _), some (.long _), _, some (.int _), some (.int _)]) F dX0_waysOf_56 rfl (j_inc _) rfl rfl ?_
        refine v_goto (pc := 59) (tgt := 5) F dX0_waysOf_59 (by decide) ?_
        refine v_drop (i := 6) (lo' := [some (.ref _), some (.int _), some (.int _), some (.long _), _, some (.int _), _]) rfl ?_
        have q := ih (by omega)
        rw [wy_t hsk hb] at q
        exact q

set_option maxRecDepth 100000 in
theorem c_X0_share (c ways : Int64) (m : Nat) (hm : m ≤ 8) (μ : j_M) : Ct yX0_share cX0_share 8 (some .int) 0 ΛX [.long c, .long ways, .int (nI m)] μ (pI fun r μ2 => r = shr c ways (alK (-1) m) ∧ μ2 = μ) := by
  refine Ct.go (lo := [some (.long c), none, some (.long ways), none, some (.int (nI m)), none, none, none]) (by decide) (Nat.le_of_ble_eq_true rfl) rfl rfl (fun X F => ?_)
  have F : Fx X cX0_share RX0 0 (some .int) ΛX := F
  refine v_lconst (pc := 0) (v := 1) F dX0_share_0 (by decide) ?_
  refine v_lstore (pc := 1) (lo' := [some (.long _), _, some (.long _), _, some (.int _), some (.long _), _, _]) F dX0_share_1 rfl (Nat.le_of_ble_eq_true rfl) rfl ?_
  refine v_iconst (pc := 3) (v := nI 0) F dX0_share_3 (by decide) ?_
  refine v_istore (pc := 4) (lo' := [some (.long _), _, some (.long _), _, some (.int _), some (.long _), _, some (.int _)]) F dX0_share_4 rfl (Nat.le_of_ble_eq_true rfl) rfl ?_
  refine j_up m (fun k => V X _ 6 [some (.long c), none, some (.long ways), none, some (.int (nI m)), some (.long ((alK (-1) k))), none, some (.int (nI k))] [] μ) (fun k hk ih => ?_) 0 (Nat.zero_le _)
  refine v_iload (pc := 6) (i := 7) F dX0_share_6 rfl ?_
  refine v_iload (pc := 8) (i := 4) F dX0_share_8 rfl ?_
  refine v_icmp_ge (pc := 10) (tgt := 27) F dX0_share_10 (by decide) (fun h10_1 => ?_) (fun h10_1 => ?_)
  · rw [nI_leI (by omega) (by omega)] at h10_1
    refine v_lload (pc := 27) (i := 5) F dX0_share_27 rfl ?_
    refine v_lconst (pc := 29) (v := 0) F dX0_share_29 (by decide) ?_
    refine v_lcmp (pc := 30) F dX0_share_30 ?_
    refine v_if_le (pc := 31) (tgt := 44) F dX0_share_31 (by decide) (fun hpos => ?_) (fun hpos => ?_)
    · rw [lc_le] at hpos
      exact absurd (al_pos (m := k) (by omega)) (Int64.not_lt.mpr hpos)
    · rw [lc_le] at hpos
      refine v_lload_n (pc := 34) (i := 0) F dX0_share_34 rfl rfl ?_
      refine v_lload_n (pc := 35) (i := 2) F dX0_share_35 rfl rfl ?_
      refine v_lmul (pc := 36) F dX0_share_36 ?_
      refine v_lload (pc := 37) (i := 5) F dX0_share_37 rfl ?_
      refine v_ldiv (pc := 39) F dX0_share_39 (al_ne (by omega)) ?_
      refine v_l2i (pc := 40) F dX0_share_40 ?_
      refine v_goto (pc := 41) (tgt := 45) F dX0_share_41 (by decide) ?_
      refine v_ireturn (pc := 45) F dX0_share_45 (rfl) ?_
      have e : k = m := by omega
      subst e
      exact ⟨rfl, rfl⟩
  · rw [nI_leI (by omega) (by omega)] at h10_1
    refine v_lload (pc := 13) (i := 5) F dX0_share_13 rfl ?_
    refine v_ldc2 (pc := 15) F dX0_share_15 kcX0_33 ?_
    refine v_lmul (pc := 18) F dX0_share_18 ?_
    refine v_lstore (pc := 19) (lo' := [some (.long _), _, some (.long _), _, some (.int _), some (.long _), _, some (.int _)]) F dX0_share_19 rfl (Nat.le_of_ble_eq_true rfl) rfl ?_
    refine v_iinc (pc := 21) (i := 7) (v := nI (k + 1)) (lo' := [some (.long _), _, some (.long _), _, some (.int _), some (.long _), _, some (.int _)]) F dX0_share_21 rfl (j_inc _) rfl rfl ?_
    refine v_goto (pc := 24) (tgt := 6) F dX0_share_24 (by decide) ?_
    have q := ih (by omega)
    rw [al_s1 (by omega)] at q
    exact q

set_option maxRecDepth 100000 in
theorem c_X0_ofLeft (x : Nat) (hx : j_ob ΛX x 0) (b : Nat) (hb : j_ob ΛX b 4) (n : Nat) (w : Nat → Nat → Int32) (μ : j_M) (hS : SQ μ b w n) (hW : WI w n) (hxb : x + 3 ≤ b ∨ b + 21 ≤ x) (p : Nat) (hp : p < 12) : Ct yX0_ofLeft cX0_ofLeft 7 (some .int) 5 ΛX [.ref x, .ref b, .int (nI p)] μ (pI fun r μ2 => r = shr 1000000 (odK w n p (2 ^ n)) (alK (-1) n) ∧ Fm (PY x) μ μ2) := by
  refine Ct.go (lo := [some (.ref x), some (.ref b), some (.int (nI p)), none, none, none, none]) (by decide) (Nat.le_of_ble_eq_true rfl) rfl rfl (fun X F => ?_)
  have F : Fx X cX0_ofLeft RX0 5 (some .int) ΛX := F
  have hn8 := hS.2
  have hpw := j_pw hn8
  refine v_aload_n (pc := 0) (i := 1) F dX0_ofLeft_0 rfl rfl ?_
  refine v_callVI (pc := 1) (As := []) (rest := []) (c := 4) F mX4_everybody kX0_35 im_X4_everybody se_X4_everybody dX0_ofLeft_1 rfl rfl (by decide) (c_X4_everybody b hb n w _ (hS)) (by decide) rfl rfl (Nat.le_of_ble_eq_true rfl) hb (fun x1 μ1 hp1 => ?_)
  rw [hp1.1, hp1.2]
  refine v_istore_n (pc := 4) (lo' := [some (.ref _), some (.ref _), some (.int _), some (.int _), _, _, _]) F dX0_ofLeft_4 rfl rfl (Nat.le_of_ble_eq_true rfl) rfl ?_
  refine v_lconst (pc := 5) (v := 0) F dX0_ofLeft_5 (by decide) ?_
  refine v_lstore (pc := 6) (lo' := [some (.ref _), some (.ref _), some (.int _), some (.int _), some (.long _), _, _]) F dX0_ofLeft_6 rfl (Nat.le_of_ble_eq_true rfl) rfl ?_
  refine v_iconst (pc := 8) (v := nI 0) F dX0_ofLeft_8 (by decide) ?_
  refine v_istore (pc := 9) (lo' := [some (.ref _), some (.ref _), some (.int _), some (.int _), some (.long _), _, some (.int _)]) F dX0_ofLeft_9 rfl (Nat.le_of_ble_eq_true rfl) rfl ?_
  refine j_up ((2 ^ n)) (fun k => ∀ μ' : j_M, (Fm (PY x) μ μ') → V X _ 11 [some (.ref x), some (.ref b), some (.int (nI p)), some (.int (nI (2 ^ n - 1))), some (.long ((odK w n p k))), none, some (.int (nI k))] [] μ') (fun k hk ih μ' hI => ?_) 0 (Nat.zero_le _) μ (Fm.rf)
  have hS2 : SQ μ' b w n := SQ_F hS hI (fun c j z => by omega)
  refine v_iload (pc := 11) (i := 6) F dX0_ofLeft_11 rfl ?_
  refine v_iload_n (pc := 13) (i := 3) F dX0_ofLeft_13 rfl rfl ?_
  refine v_icmp_gt (pc := 14) (tgt := 63) F dX0_ofLeft_14 (by decide) (fun hend => ?_) (fun hend => ?_)
  · skip
    have hk2 : k = 2 ^ n := by
      have := (nI_ltI (by omega) (by omega)).mp hend
      omega
    refine v_ldc2 (pc := 63) F dX0_ofLeft_63 kcX0_53 ?_
    refine v_lload (pc := 66) (i := 4) F dX0_ofLeft_66 rfl ?_
    refine v_aload_n (pc := 68) (i := 1) F dX0_ofLeft_68 rfl rfl ?_
    refine v_getI (pc := 69) F fX0_18 dX0_ofLeft_69 rfl hb ?_
    refine v_topE (y := nI n) (hS2.1.cnt) ?_
    refine v_callSI (pc := 72) (As := [_, _, _]) (rest := []) F mX0_share kX0_55 sm_X0_share dX0_ofLeft_72 (c_X0_share _ _ n (by omega) _) (by decide) rfl rfl (Nat.le_of_ble_eq_true rfl) (fun x3 μ3 hp3 => ?_)
    rw [hp3.1, hp3.2]
    refine v_ireturn (pc := 75) F dX0_ofLeft_75 (rfl) ?_
    rw [hk2]
    exact ⟨rfl, hI⟩
  · skip
    have hk2 : k < 2 ^ n := by
      have h7 : ¬ 2 ^ n - 1 < k := fun z => hend ((nI_ltI (by omega) (by omega)).mpr z)
      omega
    refine v_aload_n (pc := 17) (i := 0) F dX0_ofLeft_17 rfl rfl ?_
    refine v_getR (pc := 18) (o := 1) F fX0_12 dX0_ofLeft_18 rfl hx ?_
    refine v_topR (y := x + 1) rfl ?_
    refine v_aload_n (pc := 21) (i := 1) F dX0_ofLeft_21 rfl rfl ?_
    refine v_iload (pc := 22) (i := 6) F dX0_ofLeft_22 rfl ?_
    refine v_aload_n (pc := 24) (i := 1) F dX0_ofLeft_24 rfl rfl ?_
    refine v_getI (pc := 25) F fX0_39 dX0_ofLeft_25 rfl hb ?_
    refine v_topE (y := (lfB (w 1))) (hS2.1.fil) ?_
    refine v_callVV (pc := 28) (As := [_, _, _]) (rest := []) (c := 2) F mX2_run kX0_42 im_X2_run se_X2_run dX0_ofLeft_28 rfl rfl (by decide) (c_X2_run (x + 1) (lx0_0 hx) b hb n w _ (hS2) hW (nI k) (w 1) UU.self (by omega)) (by decide) rfl rfl (Nat.le_of_ble_eq_true rfl) (lx0_0 hx) (fun μ4 hp4 => ?_)
    skip
    refine v_aload_n (pc := 31) (i := 0) F dX0_ofLeft_31 rfl rfl ?_
    refine v_getR (pc := 32) (o := 1) F fX0_12 dX0_ofLeft_32 rfl hx ?_
    refine v_topR (y := x + 1) rfl ?_
    refine v_getI (pc := 35) F fX0_46 dX0_ofLeft_35 rfl (lx0_0 hx) ?_
    refine v_topE (y := (lfB (uE w n (nI k)))) (hp4.2.1) ?_
    refine v_iload_n (pc := 38) (i := 2) F dX0_ofLeft_38 rfl rfl ?_
    refine v_ishr (pc := 39) F dX0_ofLeft_39 ?_
    refine v_iconst (pc := 40) (v := nI 1) F dX0_ofLeft_40 (by decide) ?_
    refine v_iand (pc := 41) F dX0_ofLeft_41 ?_
    refine v_if_eq (pc := 42) (tgt := 57) F dX0_ofLeft_42 (by decide) (fun hr0 => ?_) (fun hr0 => ?_)
    · rw [tb_if (by omega)] at hr0
      have hun : uE w n (nI k) p = -1 := Classical.not_not.mp (fun z => hr0 ((lf_tb hp).mpr z))
      refine v_iinc (pc := 57) (i := 6) (v := nI (k + 1)) (lo' := [some (.ref _), some (.ref _), some (.int _), some (.int _), some (.long _), _, some (.int _)]) F dX0_ofLeft_57 rfl (j_inc _) rfl rfl ?_
      refine v_goto (pc := 60) (tgt := 11) F dX0_ofLeft_60 (by decide) ?_
      have q := ih (by omega)
      rw [od_s hun] at q
      exact q _ (hI.tr (hp4.1.mono (fun c j z => by omega)))
    · rw [tb_if (by omega)] at hr0
      rw [Classical.not_not] at hr0
      have hun : ¬ uE w n (nI k) p = -1 := (lf_tb hp).mp hr0
      refine v_lload (pc := 45) (i := 4) F dX0_ofLeft_45 rfl ?_
      refine v_aload_n (pc := 47) (i := 1) F dX0_ofLeft_47 rfl rfl ?_
      refine v_iload (pc := 48) (i := 6) F dX0_ofLeft_48 rfl ?_
      refine v_iconst (pc := 50) (v := (-1)) F dX0_ofLeft_50 (by decide) ?_
      refine v_callSJ (pc := 51) (As := [_, _, _]) (rest := [_]) F mX0_waysOf kX0_49 sm_X0_waysOf dX0_ofLeft_51 (c_X0_waysOf b hb n w _ (SQ_F (hS2) hp4.1 (fun c j z => by omega)) _ _) (by decide) rfl rfl (Nat.le_of_ble_eq_true rfl) (fun x6 μ6 hp6 => ?_)
      rw [hp6.1, hp6.2]
      refine v_ladd (pc := 54) F dX0_ofLeft_54 ?_
      refine v_lstore (pc := 55) (lo' := [some (.ref _), some (.ref _), some (.int _), some (.int _), some (.long _), _, some (.int _)]) F dX0_ofLeft_55 rfl (Nat.le_of_ble_eq_true rfl) rfl ?_
      refine v_iinc (pc := 57) (i := 6) (v := nI (k + 1)) (lo' := [some (.ref _), some (.ref _), some (.int _), some (.int _), some (.long _), _, some (.int _)]) F dX0_ofLeft_57 rfl (j_inc _) rfl rfl ?_
      refine v_goto (pc := 60) (tgt := 11) F dX0_ofLeft_60 (by decide) ?_
      have q := ih (by omega)
      rw [od_f hun] at q
      exact q _ (hI.tr (hp4.1.mono (fun c j z => by omega)))

set_option maxRecDepth 100000 in
theorem c_X0_ofGlad (x : Nat) (hx : j_ob ΛX x 0) (b : Nat) (hb : j_ob ΛX b 4) (n : Nat) (w : Nat → Nat → Int32) (μ : j_M) (hS : SQ μ b w n) (hW : WI w n) (hxb : x + 3 ≤ b ∨ b + 21 ≤ x) (l : Nat) (hl : l < n) : Ct yX0_ofGlad cX0_ofGlad 7 (some .int) 5 ΛX [.ref x, .ref b, .int (nI l)] μ (pI fun r μ2 => r = shr 1000000 (liK w n l (2 ^ n)) (alK (nI l) n) ∧ Fm (PY x) μ μ2) := by
  refine Ct.go (lo := [some (.ref x), some (.ref b), some (.int (nI l)), none, none, none, none]) (by decide) (Nat.le_of_ble_eq_true rfl) rfl rfl (fun X F => ?_)
  have F : Fx X cX0_ofGlad RX0 5 (some .int) ΛX := F
  have hn8 := hS.2
  have hpw := j_pw hn8
  refine v_aload_n (pc := 0) (i := 1) F dX0_ofGlad_0 rfl rfl ?_
  refine v_callVI (pc := 1) (As := []) (rest := []) (c := 4) F mX4_everybody kX0_35 im_X4_everybody se_X4_everybody dX0_ofGlad_1 rfl rfl (by decide) (c_X4_everybody b hb n w _ (hS)) (by decide) rfl rfl (Nat.le_of_ble_eq_true rfl) hb (fun x1 μ1 hp1 => ?_)
  rw [hp1.1, hp1.2]
  refine v_istore_n (pc := 4) (lo' := [some (.ref _), some (.ref _), some (.int _), some (.int _), _, _, _]) F dX0_ofGlad_4 rfl rfl (Nat.le_of_ble_eq_true rfl) rfl ?_
  refine v_lconst (pc := 5) (v := 0) F dX0_ofGlad_5 (by decide) ?_
  refine v_lstore (pc := 6) (lo' := [some (.ref _), some (.ref _), some (.int _), some (.int _), some (.long _), _, _]) F dX0_ofGlad_6 rfl (Nat.le_of_ble_eq_true rfl) rfl ?_
  refine v_iconst (pc := 8) (v := nI 0) F dX0_ofGlad_8 (by decide) ?_
  refine v_istore (pc := 9) (lo' := [some (.ref _), some (.ref _), some (.int _), some (.int _), some (.long _), _, some (.int _)]) F dX0_ofGlad_9 rfl (Nat.le_of_ble_eq_true rfl) rfl ?_
  refine j_up ((2 ^ n)) (fun k => ∀ μ' : j_M, (Fm (PY x) μ μ') → V X _ 11 [some (.ref x), some (.ref b), some (.int (nI l)), some (.int (nI (2 ^ n - 1))), some (.long ((liK w n l k))), none, some (.int (nI k))] [] μ') (fun k hk ih μ' hI => ?_) 0 (Nat.zero_le _) μ (Fm.rf)
  have hS2 : SQ μ' b w n := SQ_F hS hI (fun c j z => by omega)
  refine v_iload (pc := 11) (i := 6) F dX0_ofGlad_11 rfl ?_
  refine v_iload_n (pc := 13) (i := 3) F dX0_ofGlad_13 rfl rfl ?_
  refine v_icmp_gt (pc := 14) (tgt := 72) F dX0_ofGlad_14 (by decide) (fun hend => ?_) (fun hend => ?_)
  · skip
    have hk2 : k = 2 ^ n := by
      have := (nI_ltI (by omega) (by omega)).mp hend
      omega
    refine v_ldc2 (pc := 72) F dX0_ofGlad_72 kcX0_53 ?_
    refine v_lload (pc := 75) (i := 4) F dX0_ofGlad_75 rfl ?_
    refine v_aload_n (pc := 77) (i := 1) F dX0_ofGlad_77 rfl rfl ?_
    refine v_getI (pc := 78) F fX0_18 dX0_ofGlad_78 rfl hb ?_
    refine v_topE (y := nI n) (hS2.1.cnt) ?_
    refine v_iconst (pc := 81) (v := nI 1) F dX0_ofGlad_81 (by decide) ?_
    refine v_isub (pc := 82) F dX0_ofGlad_82 ?_
    refine v_topE (pk_sub (by omega)) ?_
    refine v_callSI (pc := 83) (As := [_, _, _]) (rest := []) F mX0_share kX0_55 sm_X0_share dX0_ofGlad_83 (c_X0_share _ _ (n - 1) (by omega) _) (by decide) rfl rfl (Nat.le_of_ble_eq_true rfl) (fun x3 μ3 hp3 => ?_)
    rw [hp3.1, hp3.2]
    refine v_ireturn (pc := 86) F dX0_ofGlad_86 (rfl) ?_
    rw [hk2, al_one hl hn8]
    exact ⟨rfl, hI⟩
  · skip
    have hk2 : k < 2 ^ n := by
      have h7 : ¬ 2 ^ n - 1 < k := fun z => hend ((nI_ltI (by omega) (by omega)).mpr z)
      omega
    refine v_iload (pc := 17) (i := 6) F dX0_ofGlad_17 rfl ?_
    refine v_iload_n (pc := 19) (i := 2) F dX0_ofGlad_19 rfl rfl ?_
    refine v_ishr (pc := 20) F dX0_ofGlad_20 ?_
    refine v_iconst (pc := 21) (v := nI 1) F dX0_ofGlad_21 (by decide) ?_
    refine v_iand (pc := 22) F dX0_ofGlad_22 ?_
    refine v_if_eq (pc := 23) (tgt := 66) F dX0_ofGlad_23 (by decide) (fun hlk => ?_) (fun hlk => ?_)
    · rw [tb_if (by omega)] at hlk
      refine v_iinc (pc := 66) (i := 6) (v := nI (k + 1)) (lo' := [some (.ref _), some (.ref _), some (.int _), some (.int _), some (.long _), _, some (.int _)]) F dX0_ofGlad_66 rfl (j_inc _) rfl rfl ?_
      refine v_goto (pc := 69) (tgt := 11) F dX0_ofGlad_69 (by decide) ?_
      have q := ih (by omega)
      rw [li_1 hlk] at q
      exact q _ hI
    · rw [tb_if (by omega)] at hlk
      rw [Classical.not_not] at hlk
      refine v_aload_n (pc := 26) (i := 0) F dX0_ofGlad_26 rfl rfl ?_
      refine v_getR (pc := 27) (o := 1) F fX0_12 dX0_ofGlad_27 rfl hx ?_
      refine v_topR (y := x + 1) rfl ?_
      refine v_aload_n (pc := 30) (i := 1) F dX0_ofGlad_30 rfl rfl ?_
      refine v_iload (pc := 31) (i := 6) F dX0_ofGlad_31 rfl ?_
      refine v_aload_n (pc := 33) (i := 1) F dX0_ofGlad_33 rfl rfl ?_
      refine v_getI (pc := 34) F fX0_39 dX0_ofGlad_34 rfl hb ?_
      refine v_topE (y := (lfB (w 1))) (hS2.1.fil) ?_
      refine v_callVV (pc := 37) (As := [_, _, _]) (rest := []) (c := 2) F mX2_run kX0_42 im_X2_run se_X2_run dX0_ofGlad_37 rfl rfl (by decide) (c_X2_run (x + 1) (lx0_0 hx) b hb n w _ (hS2) hW (nI k) (w 1) UU.self (by omega)) (by decide) rfl rfl (Nat.le_of_ble_eq_true rfl) (lx0_0 hx) (fun μ5 hp5 => ?_)
      skip
      refine v_aload_n (pc := 40) (i := 0) F dX0_ofGlad_40 rfl rfl ?_
      refine v_getR (pc := 41) (o := 1) F fX0_12 dX0_ofGlad_41 rfl hx ?_
      refine v_topR (y := x + 1) rfl ?_
      refine v_getI (pc := 44) F fX0_59 dX0_ofGlad_44 rfl (lx0_0 hx) ?_
      refine v_topE (y := (bK (fun l => tb (nI k) l && gdE w n (nI k) l) n)) (hp5.2.2.2.1) ?_
      refine v_iload_n (pc := 47) (i := 2) F dX0_ofGlad_47 rfl rfl ?_
      refine v_ishr (pc := 48) F dX0_ofGlad_48 ?_
      refine v_iconst (pc := 49) (v := nI 1) F dX0_ofGlad_49 (by decide) ?_
      refine v_iand (pc := 50) F dX0_ofGlad_50 ?_
      refine v_if_eq (pc := 51) (tgt := 66) F dX0_ofGlad_51 (by decide) (fun hgl => ?_) (fun hgl => ?_)
      · rw [tb_if (by omega)] at hgl
        have hgd : ¬ gdE w n (nI k) l = true := by
          intro z
          refine hgl ?_
          rw [glE hn8 hl, hlk, z]; rfl
        refine v_iinc (pc := 66) (i := 6) (v := nI (k + 1)) (lo' := [some (.ref _), some (.ref _), some (.int _), some (.int _), some (.long _), _, some (.int _)]) F dX0_ofGlad_66 rfl (j_inc _) rfl rfl ?_
        refine v_goto (pc := 69) (tgt := 11) F dX0_ofGlad_69 (by decide) ?_
        have q := ih (by omega)
        rw [li_2 hgd] at q
        exact q _ (hI.tr (hp5.1.mono (fun c j z => by omega)))
      · rw [tb_if (by omega)] at hgl
        rw [Classical.not_not] at hgl
        have hgd : gdE w n (nI k) l = true := by
          have q := hgl
          rw [glE hn8 hl, hlk, Bool.true_and] at q
          exact q
        refine v_lload (pc := 54) (i := 4) F dX0_ofGlad_54 rfl ?_
        refine v_aload_n (pc := 56) (i := 1) F dX0_ofGlad_56 rfl rfl ?_
        refine v_iload (pc := 57) (i := 6) F dX0_ofGlad_57 rfl ?_
        refine v_iload_n (pc := 59) (i := 2) F dX0_ofGlad_59 rfl rfl ?_
        refine v_callSJ (pc := 60) (As := [_, _, _]) (rest := [_]) F mX0_waysOf kX0_49 sm_X0_waysOf dX0_ofGlad_60 (c_X0_waysOf b hb n w _ (SQ_F (hS2) hp5.1 (fun c j z => by omega)) _ _) (by decide) rfl rfl (Nat.le_of_ble_eq_true rfl) (fun x7 μ7 hp7 => ?_)
        rw [hp7.1, hp7.2]
        refine v_ladd (pc := 63) F dX0_ofGlad_63 ?_
        refine v_lstore (pc := 64) (lo' := [some (.ref _), some (.ref _), some (.int _), some (.int _), some (.long _), _, some (.int _)]) F dX0_ofGlad_64 rfl (Nat.le_of_ble_eq_true rfl) rfl ?_
        refine v_iinc (pc := 66) (i := 6) (v := nI (k + 1)) (lo' := [some (.ref _), some (.ref _), some (.int _), some (.int _), some (.long _), _, some (.int _)]) F dX0_ofGlad_66 rfl (j_inc _) rfl rfl ?_
        refine v_goto (pc := 69) (tgt := 11) F dX0_ofGlad_69 (by decide) ?_
        have q := ih (by omega)
        rw [li_3 hlk hgd] at q
        exact q _ (hI.tr (hp5.1.mono (fun c j z => by omega)))

set_option maxRecDepth 100000 in
theorem c_X0_ofManyGlad (x : Nat) (hx : j_ob ΛX x 0) (b : Nat) (hb : j_ob ΛX b 4) (n : Nat) (w : Nat → Nat → Int32) (μ : j_M) (hS : SQ μ b w n) (hW : WI w n) (hxb : x + 3 ≤ b ∨ b + 21 ≤ x) (m : Nat) (hm : m ≤ 8) : Ct yX0_ofManyGlad cX0_ofManyGlad 7 (some .int) 5 ΛX [.ref x, .ref b, .int (nI m)] μ (pI fun r μ2 => r = shr 1000000 (gmK w n m (2 ^ n)) (alK (-1) n) ∧ Fm (PY x) μ μ2) := by
  refine Ct.go (lo := [some (.ref x), some (.ref b), some (.int (nI m)), none, none, none, none]) (by decide) (Nat.le_of_ble_eq_true rfl) rfl rfl (fun X F => ?_)
  have F : Fx X cX0_ofManyGlad RX0 5 (some .int) ΛX := F
  have hn8 := hS.2
  have hpw := j_pw hn8
  refine v_aload_n (pc := 0) (i := 1) F dX0_ofManyGlad_0 rfl rfl ?_
  refine v_callVI (pc := 1) (As := []) (rest := []) (c := 4) F mX4_everybody kX0_35 im_X4_everybody se_X4_everybody dX0_ofManyGlad_1 rfl rfl (by decide) (c_X4_everybody b hb n w _ (hS)) (by decide) rfl rfl (Nat.le_of_ble_eq_true rfl) hb (fun x1 μ1 hp1 => ?_)
  rw [hp1.1, hp1.2]
  refine v_istore_n (pc := 4) (lo' := [some (.ref _), some (.ref _), some (.int _), some (.int _), _, _, _]) F dX0_ofManyGlad_4 rfl rfl (Nat.le_of_ble_eq_true rfl) rfl ?_
  refine v_lconst (pc := 5) (v := 0) F dX0_ofManyGlad_5 (by decide) ?_
  refine v_lstore (pc := 6) (lo' := [some (.ref _), some (.ref _), some (.int _), some (.int _), some (.long _), _, _]) F dX0_ofManyGlad_6 rfl (Nat.le_of_ble_eq_true rfl) rfl ?_
  refine v_iconst (pc := 8) (v := nI 0) F dX0_ofManyGlad_8 (by decide) ?_
  refine v_istore (pc := 9) (lo' := [some (.ref _), some (.ref _), some (.int _), some (.int _), some (.long _), _, some (.int _)]) F dX0_ofManyGlad_9 rfl (Nat.le_of_ble_eq_true rfl) rfl ?_
  refine j_up ((2 ^ n)) (fun k => ∀ μ' : j_M, (Fm (PY x) μ μ') → V X _ 11 [some (.ref x), some (.ref b), some (.int (nI m)), some (.int (nI (2 ^ n - 1))), some (.long ((gmK w n m k))), none, some (.int (nI k))] [] μ') (fun k hk ih μ' hI => ?_) 0 (Nat.zero_le _) μ (Fm.rf)
  have hS2 : SQ μ' b w n := SQ_F hS hI (fun c j z => by omega)
  refine v_iload (pc := 11) (i := 6) F dX0_ofManyGlad_11 rfl ?_
  refine v_iload_n (pc := 13) (i := 3) F dX0_ofManyGlad_13 rfl rfl ?_
  refine v_icmp_gt (pc := 14) (tgt := 63) F dX0_ofManyGlad_14 (by decide) (fun hend => ?_) (fun hend => ?_)
  · skip
    have hk2 : k = 2 ^ n := by
      have := (nI_ltI (by omega) (by omega)).mp hend
      omega
    refine v_ldc2 (pc := 63) F dX0_ofManyGlad_63 kcX0_53 ?_
    refine v_lload (pc := 66) (i := 4) F dX0_ofManyGlad_66 rfl ?_
    refine v_aload_n (pc := 68) (i := 1) F dX0_ofManyGlad_68 rfl rfl ?_
    refine v_getI (pc := 69) F fX0_18 dX0_ofManyGlad_69 rfl hb ?_
    refine v_topE (y := nI n) (hS2.1.cnt) ?_
    refine v_callSI (pc := 72) (As := [_, _, _]) (rest := []) F mX0_share kX0_55 sm_X0_share dX0_ofManyGlad_72 (c_X0_share _ _ n (by omega) _) (by decide) rfl rfl (Nat.le_of_ble_eq_true rfl) (fun x3 μ3 hp3 => ?_)
    rw [hp3.1, hp3.2]
    refine v_ireturn (pc := 75) F dX0_ofManyGlad_75 (rfl) ?_
    rw [hk2]
    exact ⟨rfl, hI⟩
  · skip
    have hk2 : k < 2 ^ n := by
      have h7 : ¬ 2 ^ n - 1 < k := fun z => hend ((nI_ltI (by omega) (by omega)).mpr z)
      omega
    refine v_aload_n (pc := 17) (i := 0) F dX0_ofManyGlad_17 rfl rfl ?_
    refine v_getR (pc := 18) (o := 1) F fX0_12 dX0_ofManyGlad_18 rfl hx ?_
    refine v_topR (y := x + 1) rfl ?_
    refine v_aload_n (pc := 21) (i := 1) F dX0_ofManyGlad_21 rfl rfl ?_
    refine v_iload (pc := 22) (i := 6) F dX0_ofManyGlad_22 rfl ?_
    refine v_aload_n (pc := 24) (i := 1) F dX0_ofManyGlad_24 rfl rfl ?_
    refine v_getI (pc := 25) F fX0_39 dX0_ofManyGlad_25 rfl hb ?_
    refine v_topE (y := (lfB (w 1))) (hS2.1.fil) ?_
    refine v_callVV (pc := 28) (As := [_, _, _]) (rest := []) (c := 2) F mX2_run kX0_42 im_X2_run se_X2_run dX0_ofManyGlad_28 rfl rfl (by decide) (c_X2_run (x + 1) (lx0_0 hx) b hb n w _ (hS2) hW (nI k) (w 1) UU.self (by omega)) (by decide) rfl rfl (Nat.le_of_ble_eq_true rfl) (lx0_0 hx) (fun μ4 hp4 => ?_)
    skip
    refine v_aload_n (pc := 31) (i := 0) F dX0_ofManyGlad_31 rfl rfl ?_
    refine v_getR (pc := 32) (o := 1) F fX0_12 dX0_ofManyGlad_32 rfl hx ?_
    refine v_topR (y := x + 1) rfl ?_
    refine v_getI (pc := 35) F fX0_59 dX0_ofManyGlad_35 rfl (lx0_0 hx) ?_
    refine v_topE (y := (bK (fun l => tb (nI k) l && gdE w n (nI k) l) n)) (hp4.2.2.2.1) ?_
    refine v_callSI (pc := 38) (As := [_]) (rest := []) F mJ6_bitCount_0f7a4 kX0_62 sm_J6_bitCount_0f7a4 dX0_ofManyGlad_38 (c_J6_bc _ _ _) (by decide) rfl rfl (Nat.le_of_ble_eq_true rfl) (fun x5 μ5 hp5 => ?_)
    rw [hp5.1, hp5.2, jbc_k hn8]
    refine v_topE (y := nI (gnE w n (nI k))) rfl ?_
    have hgl := cK_le (fun l => tb (nI k) l && gdE w n (nI k) l) n
    have hgl2 : gnE w n (nI k) ≤ n := hgl
    refine v_iload_n (pc := 41) (i := 2) F dX0_ofManyGlad_41 rfl rfl ?_
    refine v_icmp_lt (pc := 42) (tgt := 57) F dX0_ofManyGlad_42 (by decide) (fun h42_6 => ?_) (fun h42_6 => ?_)
    · rw [nI_ltI (by omega) (by omega)] at h42_6
      refine v_iinc (pc := 57) (i := 6) (v := nI (k + 1)) (lo' := [some (.ref _), some (.ref _), some (.int _), some (.int _), some (.long _), _, some (.int _)]) F dX0_ofManyGlad_57 rfl (j_inc _) rfl rfl ?_
      refine v_goto (pc := 60) (tgt := 11) F dX0_ofManyGlad_60 (by decide) ?_
      have q := ih (by omega)
      rw [gm_f (by omega)] at q
      exact q _ (hI.tr (hp4.1.mono (fun c j z => by omega)))
    · rw [nI_ltI (by omega) (by omega)] at h42_6
      refine v_lload (pc := 45) (i := 4) F dX0_ofManyGlad_45 rfl ?_
      refine v_aload_n (pc := 47) (i := 1) F dX0_ofManyGlad_47 rfl rfl ?_
      refine v_iload (pc := 48) (i := 6) F dX0_ofManyGlad_48 rfl ?_
      refine v_iconst (pc := 50) (v := (-1)) F dX0_ofManyGlad_50 (by decide) ?_
      refine v_callSJ (pc := 51) (As := [_, _, _]) (rest := [_]) F mX0_waysOf kX0_49 sm_X0_waysOf dX0_ofManyGlad_51 (c_X0_waysOf b hb n w _ (SQ_F (hS2) hp4.1 (fun c j z => by omega)) _ _) (by decide) rfl rfl (Nat.le_of_ble_eq_true rfl) (fun x7 μ7 hp7 => ?_)
      rw [hp7.1, hp7.2]
      refine v_ladd (pc := 54) F dX0_ofManyGlad_54 ?_
      refine v_lstore (pc := 55) (lo' := [some (.ref _), some (.ref _), some (.int _), some (.int _), some (.long _), _, some (.int _)]) F dX0_ofManyGlad_55 rfl (Nat.le_of_ble_eq_true rfl) rfl ?_
      refine v_iinc (pc := 57) (i := 6) (v := nI (k + 1)) (lo' := [some (.ref _), some (.ref _), some (.int _), some (.int _), some (.long _), _, some (.int _)]) F dX0_ofManyGlad_57 rfl (j_inc _) rfl rfl ?_
      refine v_goto (pc := 60) (tgt := 11) F dX0_ofManyGlad_60 (by decide) ?_
      have q := ih (by omega)
      rw [gm_t (by omega)] at q
      exact q _ (hI.tr (hp4.1.mono (fun c j z => by omega)))

set_option maxRecDepth 100000 in
theorem c_X0_meanOfLeft (x : Nat) (hx : j_ob ΛX x 0) (b : Nat) (hb : j_ob ΛX b 4) (n : Nat) (w : Nat → Nat → Int32) (μ : j_M) (hS : SQ μ b w n) (hW : WI w n) (hxb : x + 3 ≤ b ∨ b + 21 ≤ x)  : Ct yX0_meanOfLeft cX0_meanOfLeft 6 (some .int) 5 ΛX [.ref x, .ref b] μ (pI fun r μ2 => r = shr 1000 (mlK w n (2 ^ n)) (alK (-1) n) ∧ Fm (PY x) μ μ2) := by
  refine Ct.go (lo := [some (.ref x), some (.ref b), none, none, none, none]) (by decide) (Nat.le_of_ble_eq_true rfl) rfl rfl (fun X F => ?_)
  have F : Fx X cX0_meanOfLeft RX0 5 (some .int) ΛX := F
  have hn8 := hS.2
  have hpw := j_pw hn8
  refine v_aload_n (pc := 0) (i := 1) F dX0_meanOfLeft_0 rfl rfl ?_
  refine v_callVI (pc := 1) (As := []) (rest := []) (c := 4) F mX4_everybody kX0_35 im_X4_everybody se_X4_everybody dX0_meanOfLeft_1 rfl rfl (by decide) (c_X4_everybody b hb n w _ (hS)) (by decide) rfl rfl (Nat.le_of_ble_eq_true rfl) hb (fun x1 μ1 hp1 => ?_)
  rw [hp1.1, hp1.2]
  refine v_istore_n (pc := 4) (lo' := [some (.ref _), some (.ref _), some (.int _), _, _, _]) F dX0_meanOfLeft_4 rfl rfl (Nat.le_of_ble_eq_true rfl) rfl ?_
  refine v_lconst (pc := 5) (v := 0) F dX0_meanOfLeft_5 (by decide) ?_
  refine v_lstore_n (pc := 6) (lo' := [some (.ref _), some (.ref _), some (.int _), some (.long _), _, _]) F dX0_meanOfLeft_6 rfl rfl (Nat.le_of_ble_eq_true rfl) rfl ?_
  refine v_iconst (pc := 7) (v := nI 0) F dX0_meanOfLeft_7 (by decide) ?_
  refine v_istore (pc := 8) (lo' := [some (.ref _), some (.ref _), some (.int _), some (.long _), _, some (.int _)]) F dX0_meanOfLeft_8 rfl (Nat.le_of_ble_eq_true rfl) rfl ?_
  refine j_up ((2 ^ n)) (fun k => ∀ μ' : j_M, (Fm (PY x) μ μ') → V X _ 10 [some (.ref x), some (.ref b), some (.int (nI (2 ^ n - 1))), some (.long ((mlK w n k))), none, some (.int (nI k))] [] μ') (fun k hk ih μ' hI => ?_) 0 (Nat.zero_le _) μ (Fm.rf)
  have hS2 : SQ μ' b w n := SQ_F hS hI (fun c j z => by omega)
  refine v_iload (pc := 10) (i := 5) F dX0_meanOfLeft_10 rfl ?_
  refine v_iload_n (pc := 12) (i := 2) F dX0_meanOfLeft_12 rfl rfl ?_
  refine v_icmp_gt (pc := 13) (tgt := 58) F dX0_meanOfLeft_13 (by decide) (fun hend => ?_) (fun hend => ?_)
  · skip
    have hk2 : k = 2 ^ n := by
      have := (nI_ltI (by omega) (by omega)).mp hend
      omega
    refine v_ldc2 (pc := 58) F dX0_meanOfLeft_58 kcX0_68 ?_
    refine v_lload_n (pc := 61) (i := 3) F dX0_meanOfLeft_61 rfl rfl ?_
    refine v_aload_n (pc := 62) (i := 1) F dX0_meanOfLeft_62 rfl rfl ?_
    refine v_getI (pc := 63) F fX0_18 dX0_meanOfLeft_63 rfl hb ?_
    refine v_topE (y := nI n) (hS2.1.cnt) ?_
    refine v_callSI (pc := 66) (As := [_, _, _]) (rest := []) F mX0_share kX0_55 sm_X0_share dX0_meanOfLeft_66 (c_X0_share _ _ n (by omega) _) (by decide) rfl rfl (Nat.le_of_ble_eq_true rfl) (fun x3 μ3 hp3 => ?_)
    rw [hp3.1, hp3.2]
    refine v_ireturn (pc := 69) F dX0_meanOfLeft_69 (rfl) ?_
    rw [hk2]
    exact ⟨rfl, hI⟩
  · skip
    have hk2 : k < 2 ^ n := by
      have h7 : ¬ 2 ^ n - 1 < k := fun z => hend ((nI_ltI (by omega) (by omega)).mpr z)
      omega
    refine v_aload_n (pc := 16) (i := 0) F dX0_meanOfLeft_16 rfl rfl ?_
    refine v_getR (pc := 17) (o := 1) F fX0_12 dX0_meanOfLeft_17 rfl hx ?_
    refine v_topR (y := x + 1) rfl ?_
    refine v_aload_n (pc := 20) (i := 1) F dX0_meanOfLeft_20 rfl rfl ?_
    refine v_iload (pc := 21) (i := 5) F dX0_meanOfLeft_21 rfl ?_
    refine v_aload_n (pc := 23) (i := 1) F dX0_meanOfLeft_23 rfl rfl ?_
    refine v_getI (pc := 24) F fX0_39 dX0_meanOfLeft_24 rfl hb ?_
    refine v_topE (y := (lfB (w 1))) (hS2.1.fil) ?_
    refine v_callVV (pc := 27) (As := [_, _, _]) (rest := []) (c := 2) F mX2_run kX0_42 im_X2_run se_X2_run dX0_meanOfLeft_27 rfl rfl (by decide) (c_X2_run (x + 1) (lx0_0 hx) b hb n w _ (hS2) hW (nI k) (w 1) UU.self (by omega)) (by decide) rfl rfl (Nat.le_of_ble_eq_true rfl) (lx0_0 hx) (fun μ4 hp4 => ?_)
    skip
    refine v_lload_n (pc := 30) (i := 3) F dX0_meanOfLeft_30 rfl rfl ?_
    refine v_aload_n (pc := 31) (i := 0) F dX0_meanOfLeft_31 rfl rfl ?_
    refine v_getR (pc := 32) (o := 1) F fX0_12 dX0_meanOfLeft_32 rfl hx ?_
    refine v_topR (y := x + 1) rfl ?_
    refine v_getI (pc := 35) F fX0_46 dX0_meanOfLeft_35 rfl (lx0_0 hx) ?_
    refine v_topE (y := (lfB (uE w n (nI k)))) (hp4.2.1) ?_
    refine v_callSI (pc := 38) (As := [_]) (rest := [_]) F mJ6_bitCount_0f7a4 kX0_62 sm_J6_bitCount_0f7a4 dX0_meanOfLeft_38 (c_J6_bc _ _ _) (by decide) rfl rfl (Nat.le_of_ble_eq_true rfl) (fun x5 μ5 hp5 => ?_)
    rw [hp5.1, hp5.2]
    refine v_i2l (pc := 41) F dX0_meanOfLeft_41 ?_
    refine v_aload_n (pc := 42) (i := 1) F dX0_meanOfLeft_42 rfl rfl ?_
    refine v_iload (pc := 43) (i := 5) F dX0_meanOfLeft_43 rfl ?_
    refine v_iconst (pc := 45) (v := (-1)) F dX0_meanOfLeft_45 (by decide) ?_
    refine v_callSJ (pc := 46) (As := [_, _, _]) (rest := [_, _]) F mX0_waysOf kX0_49 sm_X0_waysOf dX0_meanOfLeft_46 (c_X0_waysOf b hb n w _ (SQ_F (hS2) hp4.1 (fun c j z => by omega)) _ _) (by decide) rfl rfl (Nat.le_of_ble_eq_true rfl) (fun x6 μ6 hp6 => ?_)
    rw [hp6.1, hp6.2]
    refine v_lmul (pc := 49) F dX0_meanOfLeft_49 ?_
    refine v_ladd (pc := 50) F dX0_meanOfLeft_50 ?_
    refine v_lstore_n (pc := 51) (lo' := [some (.ref _), some (.ref _), some (.int _), some (.long _), _, some (.int _)]) F dX0_meanOfLeft_51 rfl rfl (Nat.le_of_ble_eq_true rfl) rfl ?_
    refine v_iinc (pc := 52) (i := 5) (v := nI (k + 1)) (lo' := [some (.ref _), some (.ref _), some (.int _), some (.long _), _, some (.int _)]) F dX0_meanOfLeft_52 rfl (j_inc _) rfl rfl ?_
    refine v_goto (pc := 55) (tgt := 10) F dX0_meanOfLeft_55 (by decide) ?_
    have q := ih (by omega)
    rw [show mlK w n (k + 1) = mlK w n k + (jbc (lfB (uE w n (nI k)))).toInt64 * wyK (w 6) (nI k) (-1) n by rw [Int64.mul_comm]; rfl] at q
    exact q _ (hI.tr (hp4.1.mono (fun c j z => by omega)))

set_option maxRecDepth 100000 in
theorem c_X9_odds (p : Int32) (μ ν : j_M) (hM : MI ν) (hR : Rel μ ν) : Ct yX9_odds cX9_odds 2 (some .int) 6 ΛX [.ref 0, .int p] μ (pI fun r μ2 => r = (s_odds p ν).1 ∧ Rel μ2 (s_odds p ν).2) := by
  refine Ct.go (lo := [some (.ref 0), some (.int p)]) (by decide) (Nat.le_of_ble_eq_true rfl) rfl rfl (fun X F => ?_)
  have F : Fx X cX9_odds RX9 6 (some .int) ΛX := F
  obtain ⟨n, hW, hsh, htp, him⟩ := id hM
  have hn := hW.1
  have hn8 := hW.2.1
  have hnn := nn_eq hn hn8
  have ho := hW.own
  have hpw := j_pw hn8
  have hS : SQ μ 1 ν.1 n := ⟨by have := hR.sc; rwa [hnn] at this, hn8⟩
  refine v_iload_n (pc := 0) (i := 1) F dX9_odds_0 rfl rfl ?_
  refine v_callSI (pc := 1) (As := [_]) (rest := []) F mX9_isPlace kX9_157 sm_X9_isPlace dX9_odds_1 (c_X9_isPlace _ _) (by decide) rfl rfl (Nat.le_of_ble_eq_true rfl) (fun x1 μ1 hp1 => ?_)
  rw [hp1.1, hp1.2]
  refine v_if_ne (pc := 4) (tgt := 14) F dX9_odds_4 (by decide) (fun h4_2 => ?_) (fun h4_2 => ?_)
  · rw [b2i_0] at h4_2
    rw [Classical.not_not] at h4_2
    obtain ⟨k_p, hk_p, he_p⟩ := inR_of (by decide) h4_2
    subst he_p
    have ek_p : ix (nI k_p) = k_p := nI_clamp (by omega)
    refine v_aload_n (pc := 14) (i := 0) F dX9_odds_14 rfl rfl ?_
    refine v_getR (pc := 15) (o := 1) F fX9_12 dX9_odds_15 rfl lx0 ?_
    refine v_topR (y := 1) rfl ?_
    refine v_getR (pc := 18) (o := 1) F fX9_163 dX9_odds_18 rfl (lx9_0 lx0) ?_
    refine v_topR (y := 2) rfl ?_
    refine v_iload_n (pc := 21) (i := 1) F dX9_odds_21 rfl rfl ?_
    refine v_ialdN (pc := 22) (k0 := k_p) F dX9_odds_22 (lx4_0 (lx9_0 lx0)) (rfl) (by omega) (by decide) ?_
    refine v_topE (y := (ν.1 1 k_p)) (hS.1.srt k_p (by omega)) ?_
    refine v_iconst (pc := 23) (v := (-1)) F dX9_odds_23 (by decide) ?_
    refine v_icmp_ne (pc := 24) (tgt := 34) F dX9_odds_24 (by decide) (fun hno => ?_) (fun hno => ?_)
    · skip
      refine v_aload_n (pc := 34) (i := 0) F dX9_odds_34 rfl rfl ?_
      refine v_getR (pc := 35) (o := 69) F fX9_39 dX9_odds_35 rfl lx0 ?_
      refine v_topR (y := 69) rfl ?_
      refine v_aload_n (pc := 38) (i := 0) F dX9_odds_38 rfl rfl ?_
      refine v_getR (pc := 39) (o := 1) F fX9_12 dX9_odds_39 rfl lx0 ?_
      refine v_topR (y := 1) rfl ?_
      refine v_iload_n (pc := 42) (i := 1) F dX9_odds_42 rfl rfl ?_
      refine v_callVI (pc := 43) (As := [_, _]) (rest := []) (c := 0) F mX0_ofLeft kX9_317 im_X0_ofLeft se_X0_ofLeft dX9_odds_43 rfl rfl (by decide) (c_X0_ofLeft 69 (lx9_6 lx0) 1 (lx9_0 lx0) n ν.1 _ (hS) hW (by omega) k_p (by omega)) (by decide) rfl rfl (Nat.le_of_ble_eq_true rfl) (lx9_6 lx0) (fun x4 μ4 hp4 => ?_)
      rw [hp4.1]
      refine v_ireturn (pc := 46) F dX9_odds_46 (rfl) ?_
      simp only [s_odds, rj, hnn, h4_2, ek_p, hno, ↓reduceIte]
      refine ⟨?_, ?_⟩ <;> first | exact trivial | exact rfl | exact (hR.X hM hp4.2 (fun c j z => by omega)) | exact Rel.rj hM hR (by decide)
    · skip
      refine v_aload_n (pc := 27) (i := 0) F dX9_odds_27 rfl rfl ?_
      refine v_bipush (pc := 28) (v := (-5)) F dX9_odds_28 (by decide) ?_
      refine v_callVI (pc := 30) (As := [_]) (rest := []) (c := 9) F mX9_refuse kX9_79 im_X9_refuse se_X9_refuse dX9_odds_30 rfl rfl (by decide) (c_X9_refuse (-5) 5 (by decide) (by decide) (by decide) _) (by decide) rfl rfl (Nat.le_of_ble_eq_true rfl) lx0 (fun x5 μ5 hp5 => ?_)
      rw [hp5.1, hp5.2]
      refine v_ireturn (pc := 33) F dX9_odds_33 (rfl) ?_
      simp only [s_odds, rj, hnn, h4_2, ek_p, hno, ↓reduceIte]
      refine ⟨?_, ?_⟩ <;> first | exact trivial | exact rfl | exact hR | exact Rel.rj hM hR (by decide)
  · rw [b2i_0] at h4_2
    refine v_aload_n (pc := 7) (i := 0) F dX9_odds_7 rfl rfl ?_
    refine v_bipush (pc := 8) (v := (-2)) F dX9_odds_8 (by decide) ?_
    refine v_callVI (pc := 10) (As := [_]) (rest := []) (c := 9) F mX9_refuse kX9_79 im_X9_refuse se_X9_refuse dX9_odds_10 rfl rfl (by decide) (c_X9_refuse (-2) 2 (by decide) (by decide) (by decide) _) (by decide) rfl rfl (Nat.le_of_ble_eq_true rfl) lx0 (fun x6 μ6 hp6 => ?_)
    rw [hp6.1, hp6.2]
    refine v_ireturn (pc := 13) F dX9_odds_13 (rfl) ?_
    simp only [s_odds, rj, hnn, h4_2, ↓reduceIte]
    refine ⟨?_, ?_⟩ <;> first | exact trivial | exact rfl | exact hR | exact Rel.rj hM hR (by decide)

set_option maxRecDepth 100000 in
theorem c_X9_likely (l : Int32) (μ ν : j_M) (hM : MI ν) (hR : Rel μ ν) : Ct yX9_likely cX9_likely 2 (some .int) 6 ΛX [.ref 0, .int l] μ (pI fun r μ2 => r = (s_likely l ν).1 ∧ Rel μ2 (s_likely l ν).2) := by
  refine Ct.go (lo := [some (.ref 0), some (.int l)]) (by decide) (Nat.le_of_ble_eq_true rfl) rfl rfl (fun X F => ?_)
  have F : Fx X cX9_likely RX9 6 (some .int) ΛX := F
  obtain ⟨n, hW, hsh, htp, him⟩ := id hM
  have hn := hW.1
  have hn8 := hW.2.1
  have hnn := nn_eq hn hn8
  have ho := hW.own
  have hpw := j_pw hn8
  have hS : SQ μ 1 ν.1 n := ⟨by have := hR.sc; rwa [hnn] at this, hn8⟩
  refine v_aload_n (pc := 0) (i := 0) F dX9_likely_0 rfl rfl ?_
  refine v_iload_n (pc := 1) (i := 1) F dX9_likely_1 rfl rfl ?_
  refine v_callVI (pc := 2) (As := [_]) (rest := []) (c := 9) F mX9_isLooker kX9_126 im_X9_isLooker se_X9_isLooker dX9_likely_2 rfl rfl (by decide) (c_X9_isLooker _ n ν.1 _ (hS)) (by decide) rfl rfl (Nat.le_of_ble_eq_true rfl) lx0 (fun x1 μ1 hp1 => ?_)
  rw [hp1.1, hp1.2]
  refine v_if_eq (pc := 5) (tgt := 23) F dX9_likely_5 (by decide) (fun h5_2 => ?_) (fun h5_2 => ?_)
  · rw [b2i_0] at h5_2
    refine v_aload_n (pc := 23) (i := 0) F dX9_likely_23 rfl rfl ?_
    refine v_bipush (pc := 24) (v := (-2)) F dX9_likely_24 (by decide) ?_
    refine v_callVI (pc := 26) (As := [_]) (rest := []) (c := 9) F mX9_refuse kX9_79 im_X9_refuse se_X9_refuse dX9_likely_26 rfl rfl (by decide) (c_X9_refuse (-2) 2 (by decide) (by decide) (by decide) _) (by decide) rfl rfl (Nat.le_of_ble_eq_true rfl) lx0 (fun x3 μ3 hp3 => ?_)
    rw [hp3.1, hp3.2]
    refine v_ireturn (pc := 29) F dX9_likely_29 (rfl) ?_
    simp only [s_likely, rj, hnn, h5_2, ↓reduceIte]
    refine ⟨?_, ?_⟩ <;> first | exact trivial | exact rfl | exact hR | exact Rel.rj hM hR (by decide)
  · rw [b2i_0] at h5_2
    rw [Classical.not_not] at h5_2
    obtain ⟨k_l, hk_l, he_l⟩ := inR_of (by omega) h5_2
    subst he_l
    have ek_l : ix (nI k_l) = k_l := nI_clamp (by omega)
    refine v_aload_n (pc := 8) (i := 0) F dX9_likely_8 rfl rfl ?_
    refine v_getR (pc := 9) (o := 69) F fX9_39 dX9_likely_9 rfl lx0 ?_
    refine v_topR (y := 69) rfl ?_
    refine v_aload_n (pc := 12) (i := 0) F dX9_likely_12 rfl rfl ?_
    refine v_getR (pc := 13) (o := 1) F fX9_12 dX9_likely_13 rfl lx0 ?_
    refine v_topR (y := 1) rfl ?_
    refine v_iload_n (pc := 16) (i := 1) F dX9_likely_16 rfl rfl ?_
    refine v_callVI (pc := 17) (As := [_, _]) (rest := []) (c := 0) F mX0_ofGlad kX9_321 im_X0_ofGlad se_X0_ofGlad dX9_likely_17 rfl rfl (by decide) (c_X0_ofGlad 69 (lx9_6 lx0) 1 (lx9_0 lx0) n ν.1 _ (hS) hW (by omega) k_l (by omega)) (by decide) rfl rfl (Nat.le_of_ble_eq_true rfl) (lx9_6 lx0) (fun x4 μ4 hp4 => ?_)
    rw [hp4.1]
    refine v_goto (pc := 20) (tgt := 29) F dX9_likely_20 (by decide) ?_
    refine v_ireturn (pc := 29) F dX9_likely_29 (rfl) ?_
    simp only [s_likely, rj, hnn, h5_2, ek_l, ↓reduceIte]
    refine ⟨?_, ?_⟩ <;> first | exact trivial | exact rfl | exact (hR.X hM hp4.2 (fun c j z => by omega)) | exact Rel.rj hM hR (by decide)

set_option maxRecDepth 100000 in
theorem c_X9_gladOdds (m : Int32) (μ ν : j_M) (hM : MI ν) (hR : Rel μ ν) : Ct yX9_gladOdds cX9_gladOdds 2 (some .int) 6 ΛX [.ref 0, .int m] μ (pI fun r μ2 => r = (s_gladOdds m ν).1 ∧ Rel μ2 (s_gladOdds m ν).2) := by
  refine Ct.go (lo := [some (.ref 0), some (.int m)]) (by decide) (Nat.le_of_ble_eq_true rfl) rfl rfl (fun X F => ?_)
  have F : Fx X cX9_gladOdds RX9 6 (some .int) ΛX := F
  obtain ⟨n, hW, hsh, htp, him⟩ := id hM
  have hn := hW.1
  have hn8 := hW.2.1
  have hnn := nn_eq hn hn8
  have ho := hW.own
  have hpw := j_pw hn8
  have hS : SQ μ 1 ν.1 n := ⟨by have := hR.sc; rwa [hnn] at this, hn8⟩
  by_cases hq_m : inQ 9 m = true
  · skip
    obtain ⟨k_m, hk_m, he_m⟩ := inR_of (by decide) hq_m
    subst he_m
    have ek_m : ix (nI k_m) = k_m := nI_clamp (by omega)
    refine v_iload_n (pc := 0) (i := 1) F dX9_gladOdds_0 rfl rfl ?_
    refine v_if_lt (pc := 1) (tgt := 10) F dX9_gladOdds_1 (by decide) (fun h1_1 => ?_) (fun h1_1 => ?_)
    · rw [j_lt0 (by omega)] at h1_1
      exact h1_1.elim
    · rw [j_lt0 (by omega)] at h1_1
      refine v_iload_n (pc := 4) (i := 1) F dX9_gladOdds_4 rfl rfl ?_
      refine v_bipush (pc := 5) (v := nI 8) F dX9_gladOdds_5 (by decide) ?_
      refine v_icmp_le (pc := 7) (tgt := 17) F dX9_gladOdds_7 (by decide) (fun h7_2 => ?_) (fun h7_2 => ?_)
      · rw [nI_leI (by omega) (by omega)] at h7_2
        refine v_aload_n (pc := 17) (i := 0) F dX9_gladOdds_17 rfl rfl ?_
        refine v_getR (pc := 18) (o := 69) F fX9_39 dX9_gladOdds_18 rfl lx0 ?_
        refine v_topR (y := 69) rfl ?_
        refine v_aload_n (pc := 21) (i := 0) F dX9_gladOdds_21 rfl rfl ?_
        refine v_getR (pc := 22) (o := 1) F fX9_12 dX9_gladOdds_22 rfl lx0 ?_
        refine v_topR (y := 1) rfl ?_
        refine v_iload_n (pc := 25) (i := 1) F dX9_gladOdds_25 rfl rfl ?_
        refine v_callVI (pc := 26) (As := [_, _]) (rest := []) (c := 0) F mX0_ofManyGlad kX9_324 im_X0_ofManyGlad se_X0_ofManyGlad dX9_gladOdds_26 rfl rfl (by decide) (c_X0_ofManyGlad 69 (lx9_6 lx0) 1 (lx9_0 lx0) n ν.1 _ (hS) hW (by omega) k_m (by omega)) (by decide) rfl rfl (Nat.le_of_ble_eq_true rfl) (lx9_6 lx0) (fun x3 μ3 hp3 => ?_)
        rw [hp3.1]
        refine v_ireturn (pc := 29) F dX9_gladOdds_29 (rfl) ?_
        simp only [s_gladOdds, rj, hnn, hq_m, ek_m, h1_1, h7_2, ↓reduceIte]
        refine ⟨?_, ?_⟩ <;> first | exact trivial | exact rfl | exact (hR.X hM hp3.2 (fun c j z => by omega)) | exact Rel.rj hM hR (by decide)
      · rw [nI_leI (by omega) (by omega)] at h7_2
        omega
  · skip
    refine v_iload_n (pc := 0) (i := 1) F dX9_gladOdds_0 rfl rfl ?_
    refine v_if_lt (pc := 1) (tgt := 10) F dX9_gladOdds_1 (by decide) (fun hneg_m => ?_) (fun hneg_m => ?_)
    · skip
      refine v_aload_n (pc := 10) (i := 0) F dX9_gladOdds_10 rfl rfl ?_
      refine v_bipush (pc := 11) (v := (-2)) F dX9_gladOdds_11 (by decide) ?_
      refine v_callVI (pc := 13) (As := [_]) (rest := []) (c := 9) F mX9_refuse kX9_79 im_X9_refuse se_X9_refuse dX9_gladOdds_13 rfl rfl (by decide) (c_X9_refuse (-2) 2 (by decide) (by decide) (by decide) _) (by decide) rfl rfl (Nat.le_of_ble_eq_true rfl) lx0 (fun x5 μ5 hp5 => ?_)
      rw [hp5.1, hp5.2]
      refine v_ireturn (pc := 16) F dX9_gladOdds_16 (rfl) ?_
      simp only [s_gladOdds, rj, hnn, hq_m, hneg_m, ↓reduceIte]
      refine ⟨?_, ?_⟩ <;> first | exact trivial | exact rfl | exact hR | exact Rel.rj hM hR (by decide)
    · skip
      refine v_iload_n (pc := 4) (i := 1) F dX9_gladOdds_4 rfl rfl ?_
      refine v_bipush (pc := 5) (v := nI 8) F dX9_gladOdds_5 (by decide) ?_
      refine v_icmp_le (pc := 7) (tgt := 17) F dX9_gladOdds_7 (by decide) (fun h7_6 => ?_) (fun h7_6 => ?_)
      · skip
        exact (inQ_no2 rfl (by decide) hq_m hneg_m h7_6).elim
      · skip
        refine v_aload_n (pc := 10) (i := 0) F dX9_gladOdds_10 rfl rfl ?_
        refine v_bipush (pc := 11) (v := (-2)) F dX9_gladOdds_11 (by decide) ?_
        refine v_callVI (pc := 13) (As := [_]) (rest := []) (c := 9) F mX9_refuse kX9_79 im_X9_refuse se_X9_refuse dX9_gladOdds_13 rfl rfl (by decide) (c_X9_refuse (-2) 2 (by decide) (by decide) (by decide) _) (by decide) rfl rfl (Nat.le_of_ble_eq_true rfl) lx0 (fun x7 μ7 hp7 => ?_)
        rw [hp7.1, hp7.2]
        refine v_ireturn (pc := 16) F dX9_gladOdds_16 (rfl) ?_
        simp only [s_gladOdds, rj, hnn, hq_m, hneg_m, h7_6, ↓reduceIte]
        refine ⟨?_, ?_⟩ <;> first | exact trivial | exact rfl | exact hR | exact Rel.rj hM hR (by decide)

set_option maxRecDepth 100000 in
theorem c_X9_meanLeft  (μ ν : j_M) (hM : MI ν) (hR : Rel μ ν) : Ct yX9_meanLeft cX9_meanLeft 1 (some .int) 6 ΛX [.ref 0] μ (pI fun r μ2 => r = (s_meanLeft ν).1 ∧ Rel μ2 (s_meanLeft ν).2) := by
  refine Ct.go (lo := [some (.ref 0)]) (by decide) (Nat.le_of_ble_eq_true rfl) rfl rfl (fun X F => ?_)
  have F : Fx X cX9_meanLeft RX9 6 (some .int) ΛX := F
  obtain ⟨n, hW, hsh, htp, him⟩ := id hM
  have hn := hW.1
  have hn8 := hW.2.1
  have hnn := nn_eq hn hn8
  have ho := hW.own
  have hpw := j_pw hn8
  have hS : SQ μ 1 ν.1 n := ⟨by have := hR.sc; rwa [hnn] at this, hn8⟩
  refine v_aload_n (pc := 0) (i := 0) F dX9_meanLeft_0 rfl rfl ?_
  refine v_getR (pc := 1) (o := 69) F fX9_39 dX9_meanLeft_1 rfl lx0 ?_
  refine v_topR (y := 69) rfl ?_
  refine v_aload_n (pc := 4) (i := 0) F dX9_meanLeft_4 rfl rfl ?_
  refine v_getR (pc := 5) (o := 1) F fX9_12 dX9_meanLeft_5 rfl lx0 ?_
  refine v_topR (y := 1) rfl ?_
  refine v_callVI (pc := 8) (As := [_]) (rest := []) (c := 0) F mX0_meanOfLeft kX9_327 im_X0_meanOfLeft se_X0_meanOfLeft dX9_meanLeft_8 rfl rfl (by decide) (c_X0_meanOfLeft 69 (lx9_6 lx0) 1 (lx9_0 lx0) n ν.1 _ (hS) hW (by omega) ) (by decide) rfl rfl (Nat.le_of_ble_eq_true rfl) (lx9_6 lx0) (fun x1 μ1 hp1 => ?_)
  rw [hp1.1]
  refine v_ireturn (pc := 11) F dX9_meanLeft_11 (rfl) ?_
  simp only [s_meanLeft, hnn, ↓reduceIte]
  refine ⟨?_, ?_⟩ <;> first | exact trivial | exact rfl | exact (hR.X hM hp1.2 (fun c j z => by omega)) | exact Rel.rj hM hR (by decide)

set_option maxRecDepth 100000 in
theorem c_X9_away (l what : Int32) (μ ν : j_M) (hM : MI ν) (hR : Rel μ ν) : Ct yX9_away cX9_away 3 (some .int) 6 ΛX [.ref 0, .int l, .int what] μ (pI fun r μ2 => r = (s_away l what ν).1 ∧ Rel μ2 (s_away l what ν).2) := by
  refine Ct.go (lo := [some (.ref 0), some (.int l), some (.int what)]) (by decide) (Nat.le_of_ble_eq_true rfl) rfl rfl (fun X F => ?_)
  have F : Fx X cX9_away RX9 6 (some .int) ΛX := F
  obtain ⟨n, hW, hsh, htp, him⟩ := id hM
  have hn := hW.1
  have hn8 := hW.2.1
  have hnn := nn_eq hn hn8
  have ho := hW.own
  have hpw := j_pw hn8
  have hS : SQ μ 1 ν.1 n := ⟨by have := hR.sc; rwa [hnn] at this, hn8⟩
  rcases inQ_c2 what with rfl | rfl | hqw
  · skip
    have hqw : inQ 2 (nI 0) = true := by decide
    have hix : ix (nI 0) = 0 := by decide
    have hc0 : (nI 0 = 0) = True := eq_true (by decide)
    have hc1 : (nI 0 = 1) = False := eq_false (by decide)
    refine v_aload_n (pc := 0) (i := 0) F dX9_away_0 rfl rfl ?_
    refine v_iload_n (pc := 1) (i := 1) F dX9_away_1 rfl rfl ?_
    refine v_callVI (pc := 2) (As := [_]) (rest := []) (c := 9) F mX9_isLooker kX9_126 im_X9_isLooker se_X9_isLooker dX9_away_2 rfl rfl (by decide) (c_X9_isLooker _ n ν.1 _ (hS)) (by decide) rfl rfl (Nat.le_of_ble_eq_true rfl) lx0 (fun x1 μ1 hp1 => ?_)
    rw [hp1.1, hp1.2]
    refine v_if_eq (pc := 5) (tgt := 17) F dX9_away_5 (by decide) (fun h5_2 => ?_) (fun h5_2 => ?_)
    · rw [b2i_0] at h5_2
      refine v_aload_n (pc := 17) (i := 0) F dX9_away_17 rfl rfl ?_
      refine v_bipush (pc := 18) (v := (-2)) F dX9_away_18 (by decide) ?_
      refine v_callVI (pc := 20) (As := [_]) (rest := []) (c := 9) F mX9_refuse kX9_79 im_X9_refuse se_X9_refuse dX9_away_20 rfl rfl (by decide) (c_X9_refuse (-2) 2 (by decide) (by decide) (by decide) _) (by decide) rfl rfl (Nat.le_of_ble_eq_true rfl) lx0 (fun x3 μ3 hp3 => ?_)
      rw [hp3.1, hp3.2]
      refine v_ireturn (pc := 23) F dX9_away_23 (rfl) ?_
      simp only [s_away, rj, hnn, hqw, hix, hc0, hc1, h5_2, ↓reduceIte]
      refine ⟨?_, ?_⟩ <;> first | exact trivial | exact rfl | exact hR | exact Rel.rj hM hR (by decide)
    · rw [b2i_0] at h5_2
      rw [Classical.not_not] at h5_2
      obtain ⟨k_l, hk_l, he_l⟩ := inR_of (by omega) h5_2
      subst he_l
      have ek_l : ix (nI k_l) = k_l := nI_clamp (by omega)
      refine v_iload_n (pc := 8) (i := 2) F dX9_away_8 rfl rfl ?_
      refine v_if_eq (pc := 9) (tgt := 24) F dX9_away_9 (by decide) (fun h9_4 => ?_) (fun h9_4 => ?_)
      · rw [j_eq0 (by omega)] at h9_4
        refine v_aload_n (pc := 24) (i := 0) F dX9_away_24 rfl rfl ?_
        refine v_getR (pc := 25) (o := 66) F fX9_32 dX9_away_25 rfl lx0 ?_
        refine v_topR (y := 66) rfl ?_
        refine v_aload_n (pc := 28) (i := 0) F dX9_away_28 rfl rfl ?_
        refine v_getR (pc := 29) (o := 1) F fX9_12 dX9_away_29 rfl lx0 ?_
        refine v_topR (y := 1) rfl ?_
        refine v_iload_n (pc := 32) (i := 1) F dX9_away_32 rfl rfl ?_
        refine v_callVV (pc := 33) (As := [_, _]) (rest := []) (c := 1) F mX1_findAway kX9_289 im_X1_findAway se_X1_findAway dX9_away_33 rfl rfl (by decide) (c_X1_findAway 66 (lx9_5 lx0) 1 (lx9_0 lx0) n ν.1 _ (hS) hW (by omega) k_l (by omega)) (by decide) rfl rfl (Nat.le_of_ble_eq_true rfl) (lx9_5 lx0) (fun μ5 hp5 => ?_)
        skip
        refine v_iload_n (pc := 36) (i := 2) F dX9_away_36 rfl rfl ?_
        refine v_if_ne (pc := 37) (tgt := 50) F dX9_away_37 (by decide) (fun h37_6 => ?_) (fun h37_6 => ?_)
        · rw [j_eq0 (by omega)] at h37_6
          exact absurd h37_6 (by decide)
        · rw [j_eq0 (by omega)] at h37_6
          refine v_aload_n (pc := 40) (i := 0) F dX9_away_40 rfl rfl ?_
          refine v_getR (pc := 41) (o := 66) F fX9_32 dX9_away_41 rfl lx0 ?_
          refine v_topR (y := 66) rfl ?_
          refine v_getI (pc := 44) F fX9_293 dX9_away_44 rfl (lx9_5 lx0) ?_
          refine v_topE (y := (awN (awK ν.1 n k_l (2 ^ n)))) (hp5.2.1) ?_
          refine v_goto (pc := 47) (tgt := 57) F dX9_away_47 (by decide) ?_
          refine v_ireturn (pc := 57) F dX9_away_57 (rfl) ?_
          simp only [s_away, hnn, hqw, hix, hc0, hc1, h5_2, ek_l, h9_4, h37_6, ↓reduceIte]
          by_cases haw : awK ν.1 n k_l (2 ^ n) = -1
          · simp only [haw, ↓reduceIte, awN]; exact ⟨(by first | exact trivial | exact rfl), (hR.X hM hp5.1 (fun c j z => by omega))⟩
          · simp only [haw, ↓reduceIte, awN]; exact ⟨(by first | exact trivial | exact rfl), (hR.X hM hp5.1 (fun c j z => by omega))⟩
      · rw [j_eq0 (by omega)] at h9_4
        exact absurd h9_4 (by decide)
  · skip
    have hqw : inQ 2 (nI 1) = true := by decide
    have hix : ix (nI 1) = 1 := by decide
    have hc0 : (nI 1 = 0) = False := eq_false (by decide)
    have hc1 : (nI 1 = 1) = True := eq_true (by decide)
    refine v_aload_n (pc := 0) (i := 0) F dX9_away_0 rfl rfl ?_
    refine v_iload_n (pc := 1) (i := 1) F dX9_away_1 rfl rfl ?_
    refine v_callVI (pc := 2) (As := [_]) (rest := []) (c := 9) F mX9_isLooker kX9_126 im_X9_isLooker se_X9_isLooker dX9_away_2 rfl rfl (by decide) (c_X9_isLooker _ n ν.1 _ (hS)) (by decide) rfl rfl (Nat.le_of_ble_eq_true rfl) lx0 (fun x7 μ7 hp7 => ?_)
    rw [hp7.1, hp7.2]
    refine v_if_eq (pc := 5) (tgt := 17) F dX9_away_5 (by decide) (fun h5_8 => ?_) (fun h5_8 => ?_)
    · rw [b2i_0] at h5_8
      refine v_aload_n (pc := 17) (i := 0) F dX9_away_17 rfl rfl ?_
      refine v_bipush (pc := 18) (v := (-2)) F dX9_away_18 (by decide) ?_
      refine v_callVI (pc := 20) (As := [_]) (rest := []) (c := 9) F mX9_refuse kX9_79 im_X9_refuse se_X9_refuse dX9_away_20 rfl rfl (by decide) (c_X9_refuse (-2) 2 (by decide) (by decide) (by decide) _) (by decide) rfl rfl (Nat.le_of_ble_eq_true rfl) lx0 (fun x9 μ9 hp9 => ?_)
      rw [hp9.1, hp9.2]
      refine v_ireturn (pc := 23) F dX9_away_23 (rfl) ?_
      simp only [s_away, rj, hnn, hqw, hix, hc0, hc1, h5_8, ↓reduceIte]
      refine ⟨?_, ?_⟩ <;> first | exact trivial | exact rfl | exact hR | exact Rel.rj hM hR (by decide)
    · rw [b2i_0] at h5_8
      rw [Classical.not_not] at h5_8
      obtain ⟨k_l, hk_l, he_l⟩ := inR_of (by omega) h5_8
      subst he_l
      have ek_l : ix (nI k_l) = k_l := nI_clamp (by omega)
      refine v_iload_n (pc := 8) (i := 2) F dX9_away_8 rfl rfl ?_
      refine v_if_eq (pc := 9) (tgt := 24) F dX9_away_9 (by decide) (fun h9_10 => ?_) (fun h9_10 => ?_)
      · rw [j_eq0 (by omega)] at h9_10
        exact absurd h9_10 (by decide)
      · rw [j_eq0 (by omega)] at h9_10
        refine v_iload_n (pc := 12) (i := 2) F dX9_away_12 rfl rfl ?_
        refine v_iconst (pc := 13) (v := nI 1) F dX9_away_13 (by decide) ?_
        refine v_icmp_eq (pc := 14) (tgt := 24) F dX9_away_14 (by decide) (fun h14_11 => ?_) (fun h14_11 => ?_)
        · rw [nI_eq (by omega) (by omega)] at h14_11
          refine v_aload_n (pc := 24) (i := 0) F dX9_away_24 rfl rfl ?_
          refine v_getR (pc := 25) (o := 66) F fX9_32 dX9_away_25 rfl lx0 ?_
          refine v_topR (y := 66) rfl ?_
          refine v_aload_n (pc := 28) (i := 0) F dX9_away_28 rfl rfl ?_
          refine v_getR (pc := 29) (o := 1) F fX9_12 dX9_away_29 rfl lx0 ?_
          refine v_topR (y := 1) rfl ?_
          refine v_iload_n (pc := 32) (i := 1) F dX9_away_32 rfl rfl ?_
          refine v_callVV (pc := 33) (As := [_, _]) (rest := []) (c := 1) F mX1_findAway kX9_289 im_X1_findAway se_X1_findAway dX9_away_33 rfl rfl (by decide) (c_X1_findAway 66 (lx9_5 lx0) 1 (lx9_0 lx0) n ν.1 _ (hS) hW (by omega) k_l (by omega)) (by decide) rfl rfl (Nat.le_of_ble_eq_true rfl) (lx9_5 lx0) (fun μ12 hp12 => ?_)
          skip
          refine v_iload_n (pc := 36) (i := 2) F dX9_away_36 rfl rfl ?_
          refine v_if_ne (pc := 37) (tgt := 50) F dX9_away_37 (by decide) (fun h37_13 => ?_) (fun h37_13 => ?_)
          · rw [j_eq0 (by omega)] at h37_13
            refine v_aload_n (pc := 50) (i := 0) F dX9_away_50 rfl rfl ?_
            refine v_getR (pc := 51) (o := 66) F fX9_32 dX9_away_51 rfl lx0 ?_
            refine v_topR (y := 66) rfl ?_
            refine v_getI (pc := 54) F fX9_296 dX9_away_54 rfl (lx9_5 lx0) ?_
            refine v_topE (y := (awK ν.1 n k_l (2 ^ n))) (hp12.2.2) ?_
            refine v_ireturn (pc := 57) F dX9_away_57 (rfl) ?_
            simp only [s_away, hnn, hqw, hix, hc0, hc1, h5_8, ek_l, h9_10, h14_11, h37_13, ↓reduceIte]
            by_cases haw : awK ν.1 n k_l (2 ^ n) = -1
            · simp only [haw, ↓reduceIte, awN]; exact ⟨(by first | exact trivial | exact rfl), (hR.X hM hp12.1 (fun c j z => by omega))⟩
            · simp only [haw, ↓reduceIte, awN]; exact ⟨(by first | exact trivial | exact rfl), (hR.X hM hp12.1 (fun c j z => by omega))⟩
          · rw [j_eq0 (by omega)] at h37_13
            exact absurd h37_13 (by decide)
        · rw [nI_eq (by omega) (by omega)] at h14_11
          exact absurd h14_11 (by decide)
  · skip
    refine v_aload_n (pc := 0) (i := 0) F dX9_away_0 rfl rfl ?_
    refine v_iload_n (pc := 1) (i := 1) F dX9_away_1 rfl rfl ?_
    refine v_callVI (pc := 2) (As := [_]) (rest := []) (c := 9) F mX9_isLooker kX9_126 im_X9_isLooker se_X9_isLooker dX9_away_2 rfl rfl (by decide) (c_X9_isLooker _ n ν.1 _ (hS)) (by decide) rfl rfl (Nat.le_of_ble_eq_true rfl) lx0 (fun x14 μ14 hp14 => ?_)
    rw [hp14.1, hp14.2]
    refine v_if_eq (pc := 5) (tgt := 17) F dX9_away_5 (by decide) (fun h5_15 => ?_) (fun h5_15 => ?_)
    · rw [b2i_0] at h5_15
      refine v_aload_n (pc := 17) (i := 0) F dX9_away_17 rfl rfl ?_
      refine v_bipush (pc := 18) (v := (-2)) F dX9_away_18 (by decide) ?_
      refine v_callVI (pc := 20) (As := [_]) (rest := []) (c := 9) F mX9_refuse kX9_79 im_X9_refuse se_X9_refuse dX9_away_20 rfl rfl (by decide) (c_X9_refuse (-2) 2 (by decide) (by decide) (by decide) _) (by decide) rfl rfl (Nat.le_of_ble_eq_true rfl) lx0 (fun x16 μ16 hp16 => ?_)
      rw [hp16.1, hp16.2]
      refine v_ireturn (pc := 23) F dX9_away_23 (rfl) ?_
      simp only [s_away, rj, hnn, hqw, h5_15, ↓reduceIte]
      refine ⟨?_, ?_⟩ <;> first | exact trivial | exact rfl | exact hR | exact Rel.rj hM hR (by decide)
    · rw [b2i_0] at h5_15
      rw [Classical.not_not] at h5_15
      obtain ⟨k_l, hk_l, he_l⟩ := inR_of (by omega) h5_15
      subst he_l
      have ek_l : ix (nI k_l) = k_l := nI_clamp (by omega)
      refine v_iload_n (pc := 8) (i := 2) F dX9_away_8 rfl rfl ?_
      refine v_if_eq (pc := 9) (tgt := 24) F dX9_away_9 (by decide) (fun h9_17 => ?_) (fun h9_17 => ?_)
      · skip
        exact absurd (show inQ 2 _ = true by rw [h9_17]; decide) hqw
      · skip
        refine v_iload_n (pc := 12) (i := 2) F dX9_away_12 rfl rfl ?_
        refine v_iconst (pc := 13) (v := nI 1) F dX9_away_13 (by decide) ?_
        refine v_icmp_eq (pc := 14) (tgt := 24) F dX9_away_14 (by decide) (fun h14_18 => ?_) (fun h14_18 => ?_)
        · skip
          exact absurd (show inQ 2 _ = true by rw [h14_18]; decide) hqw
        · skip
          refine v_aload_n (pc := 17) (i := 0) F dX9_away_17 rfl rfl ?_
          refine v_bipush (pc := 18) (v := (-2)) F dX9_away_18 (by decide) ?_
          refine v_callVI (pc := 20) (As := [_]) (rest := []) (c := 9) F mX9_refuse kX9_79 im_X9_refuse se_X9_refuse dX9_away_20 rfl rfl (by decide) (c_X9_refuse (-2) 2 (by decide) (by decide) (by decide) _) (by decide) rfl rfl (Nat.le_of_ble_eq_true rfl) lx0 (fun x19 μ19 hp19 => ?_)
          rw [hp19.1, hp19.2]
          refine v_ireturn (pc := 23) F dX9_away_23 (rfl) ?_
          simp only [s_away, rj, hnn, hqw, h5_15, ek_l, h9_17, h14_18, ↓reduceIte]
          refine ⟨?_, ?_⟩ <;> first | exact trivial | exact rfl | exact hR | exact Rel.rj hM hR (by decide)

set_option maxRecDepth 100000 in
theorem c_X9_crowd (k what : Int32) (μ ν : j_M) (hM : MI ν) (hR : Rel μ ν) : Ct yX9_crowd cX9_crowd 3 (some .int) 6 ΛX [.ref 0, .int k, .int what] μ (pI fun r μ2 => r = (s_crowd k what ν).1 ∧ Rel μ2 (s_crowd k what ν).2) := by
  refine Ct.go (lo := [some (.ref 0), some (.int k), some (.int what)]) (by decide) (Nat.le_of_ble_eq_true rfl) rfl rfl (fun X F => ?_)
  have F : Fx X cX9_crowd RX9 6 (some .int) ΛX := F
  obtain ⟨n, hW, hsh, htp, him⟩ := id hM
  have hn := hW.1
  have hn8 := hW.2.1
  have hnn := nn_eq hn hn8
  have ho := hW.own
  have hpw := j_pw hn8
  have hS : SQ μ 1 ν.1 n := ⟨by have := hR.sc; rwa [hnn] at this, hn8⟩
  by_cases hq_k : inQ (n + 1) k = true
  · skip
    obtain ⟨k_k, hk_k, he_k⟩ := inR_of (by omega) hq_k
    subst he_k
    have ek_k : ix (nI k_k) = k_k := nI_clamp (by omega)
    refine v_iload_n (pc := 0) (i := 1) F dX9_crowd_0 rfl rfl ?_
    refine v_if_lt (pc := 1) (tgt := 24) F dX9_crowd_1 (by decide) (fun h1_1 => ?_) (fun h1_1 => ?_)
    · rw [j_lt0 (by omega)] at h1_1
      exact h1_1.elim
    · rw [j_lt0 (by omega)] at h1_1
      refine v_iload_n (pc := 4) (i := 1) F dX9_crowd_4 rfl rfl ?_
      refine v_aload_n (pc := 5) (i := 0) F dX9_crowd_5 rfl rfl ?_
      refine v_getR (pc := 6) (o := 1) F fX9_12 dX9_crowd_6 rfl lx0 ?_
      refine v_topR (y := 1) rfl ?_
      refine v_getI (pc := 9) F fX9_299 dX9_crowd_9 rfl (lx9_0 lx0) ?_
      refine v_topE (y := nI n) (hS.1.cnt) ?_
      refine v_icmp_gt (pc := 12) (tgt := 24) F dX9_crowd_12 (by decide) (fun h12_2 => ?_) (fun h12_2 => ?_)
      · rw [nI_ltI (by omega) (by omega)] at h12_2
        omega
      · rw [nI_ltI (by omega) (by omega)] at h12_2
        rcases inQ_c2 what with rfl | rfl | hqw
        · skip
          have hqw : inQ 2 (nI 0) = true := by decide
          have hix : ix (nI 0) = 0 := by decide
          have hc0 : (nI 0 = 0) = True := eq_true (by decide)
          refine v_iload_n (pc := 15) (i := 2) F dX9_crowd_15 rfl rfl ?_
          refine v_if_eq (pc := 16) (tgt := 31) F dX9_crowd_16 (by decide) (fun h16_3 => ?_) (fun h16_3 => ?_)
          · rw [j_eq0 (by omega)] at h16_3
            refine v_aload_n (pc := 31) (i := 0) F dX9_crowd_31 rfl rfl ?_
            refine v_getR (pc := 32) (o := 66) F fX9_32 dX9_crowd_32 rfl lx0 ?_
            refine v_topR (y := 66) rfl ?_
            refine v_aload_n (pc := 35) (i := 0) F dX9_crowd_35 rfl rfl ?_
            refine v_getR (pc := 36) (o := 1) F fX9_12 dX9_crowd_36 rfl lx0 ?_
            refine v_topR (y := 1) rfl ?_
            refine v_iload_n (pc := 39) (i := 1) F dX9_crowd_39 rfl rfl ?_
            refine v_callVV (pc := 40) (As := [_, _]) (rest := []) (c := 1) F mX1_findGladdest kX9_302 im_X1_findGladdest se_X1_findGladdest dX9_crowd_40 rfl rfl (by decide) (c_X1_findGladdest 66 (lx9_5 lx0) 1 (lx9_0 lx0) n ν.1 _ (hS) hW (by omega) _) (by decide) rfl rfl (Nat.le_of_ble_eq_true rfl) (lx9_5 lx0) (fun μ4 hp4 => ?_)
            skip
            refine v_iload_n (pc := 43) (i := 2) F dX9_crowd_43 rfl rfl ?_
            refine v_if_ne (pc := 44) (tgt := 57) F dX9_crowd_44 (by decide) (fun h44_5 => ?_) (fun h44_5 => ?_)
            · rw [j_eq0 (by omega)] at h44_5
              exact absurd h44_5 (by decide)
            · rw [j_eq0 (by omega)] at h44_5
              refine v_aload_n (pc := 47) (i := 0) F dX9_crowd_47 rfl rfl ?_
              refine v_getR (pc := 48) (o := 66) F fX9_32 dX9_crowd_48 rfl lx0 ?_
              refine v_topR (y := 66) rfl ?_
              refine v_getI (pc := 51) F fX9_293 dX9_crowd_51 rfl (lx9_5 lx0) ?_
              refine v_topE (y := (crK ν.1 n (nI k_k) (2 ^ n)).1) (hp4.2.1) ?_
              refine v_goto (pc := 54) (tgt := 64) F dX9_crowd_54 (by decide) ?_
              refine v_ireturn (pc := 64) F dX9_crowd_64 (rfl) ?_
              simp only [s_crowd, rj, hnn, hq_k, ek_k, h1_1, h12_2, hqw, hix, hc0, h16_3, h44_5, ↓reduceIte]
              refine ⟨?_, ?_⟩ <;> first | exact trivial | exact rfl | exact (hR.X hM hp4.1 (fun c j z => by omega)) | exact Rel.rj hM hR (by decide)
          · rw [j_eq0 (by omega)] at h16_3
            exact absurd h16_3 (by decide)
        · skip
          have hqw : inQ 2 (nI 1) = true := by decide
          have hix : ix (nI 1) = 1 := by decide
          have hc0 : (nI 1 = 0) = False := eq_false (by decide)
          refine v_iload_n (pc := 15) (i := 2) F dX9_crowd_15 rfl rfl ?_
          refine v_if_eq (pc := 16) (tgt := 31) F dX9_crowd_16 (by decide) (fun h16_6 => ?_) (fun h16_6 => ?_)
          · rw [j_eq0 (by omega)] at h16_6
            exact absurd h16_6 (by decide)
          · rw [j_eq0 (by omega)] at h16_6
            refine v_iload_n (pc := 19) (i := 2) F dX9_crowd_19 rfl rfl ?_
            refine v_iconst (pc := 20) (v := nI 1) F dX9_crowd_20 (by decide) ?_
            refine v_icmp_eq (pc := 21) (tgt := 31) F dX9_crowd_21 (by decide) (fun h21_7 => ?_) (fun h21_7 => ?_)
            · rw [nI_eq (by omega) (by omega)] at h21_7
              refine v_aload_n (pc := 31) (i := 0) F dX9_crowd_31 rfl rfl ?_
              refine v_getR (pc := 32) (o := 66) F fX9_32 dX9_crowd_32 rfl lx0 ?_
              refine v_topR (y := 66) rfl ?_
              refine v_aload_n (pc := 35) (i := 0) F dX9_crowd_35 rfl rfl ?_
              refine v_getR (pc := 36) (o := 1) F fX9_12 dX9_crowd_36 rfl lx0 ?_
              refine v_topR (y := 1) rfl ?_
              refine v_iload_n (pc := 39) (i := 1) F dX9_crowd_39 rfl rfl ?_
              refine v_callVV (pc := 40) (As := [_, _]) (rest := []) (c := 1) F mX1_findGladdest kX9_302 im_X1_findGladdest se_X1_findGladdest dX9_crowd_40 rfl rfl (by decide) (c_X1_findGladdest 66 (lx9_5 lx0) 1 (lx9_0 lx0) n ν.1 _ (hS) hW (by omega) _) (by decide) rfl rfl (Nat.le_of_ble_eq_true rfl) (lx9_5 lx0) (fun μ8 hp8 => ?_)
              skip
              refine v_iload_n (pc := 43) (i := 2) F dX9_crowd_43 rfl rfl ?_
              refine v_if_ne (pc := 44) (tgt := 57) F dX9_crowd_44 (by decide) (fun h44_9 => ?_) (fun h44_9 => ?_)
              · rw [j_eq0 (by omega)] at h44_9
                refine v_aload_n (pc := 57) (i := 0) F dX9_crowd_57 rfl rfl ?_
                refine v_getR (pc := 58) (o := 66) F fX9_32 dX9_crowd_58 rfl lx0 ?_
                refine v_topR (y := 66) rfl ?_
                refine v_getI (pc := 61) F fX9_296 dX9_crowd_61 rfl (lx9_5 lx0) ?_
                refine v_topE (y := (crK ν.1 n (nI k_k) (2 ^ n)).2) (hp8.2.2) ?_
                refine v_ireturn (pc := 64) F dX9_crowd_64 (rfl) ?_
                simp only [s_crowd, rj, hnn, hq_k, ek_k, h1_1, h12_2, hqw, hix, hc0, h16_6, h21_7, h44_9, ↓reduceIte]
                refine ⟨?_, ?_⟩ <;> first | exact trivial | exact rfl | exact (hR.X hM hp8.1 (fun c j z => by omega)) | exact Rel.rj hM hR (by decide)
              · rw [j_eq0 (by omega)] at h44_9
                exact absurd h44_9 (by decide)
            · rw [nI_eq (by omega) (by omega)] at h21_7
              exact absurd h21_7 (by decide)
        · skip
          refine v_iload_n (pc := 15) (i := 2) F dX9_crowd_15 rfl rfl ?_
          refine v_if_eq (pc := 16) (tgt := 31) F dX9_crowd_16 (by decide) (fun h16_10 => ?_) (fun h16_10 => ?_)
          · skip
            exact absurd (show inQ 2 _ = true by rw [h16_10]; decide) hqw
          · skip
            refine v_iload_n (pc := 19) (i := 2) F dX9_crowd_19 rfl rfl ?_
            refine v_iconst (pc := 20) (v := nI 1) F dX9_crowd_20 (by decide) ?_
            refine v_icmp_eq (pc := 21) (tgt := 31) F dX9_crowd_21 (by decide) (fun h21_11 => ?_) (fun h21_11 => ?_)
            · skip
              exact absurd (show inQ 2 _ = true by rw [h21_11]; decide) hqw
            · skip
              refine v_aload_n (pc := 24) (i := 0) F dX9_crowd_24 rfl rfl ?_
              refine v_bipush (pc := 25) (v := (-2)) F dX9_crowd_25 (by decide) ?_
              refine v_callVI (pc := 27) (As := [_]) (rest := []) (c := 9) F mX9_refuse kX9_79 im_X9_refuse se_X9_refuse dX9_crowd_27 rfl rfl (by decide) (c_X9_refuse (-2) 2 (by decide) (by decide) (by decide) _) (by decide) rfl rfl (Nat.le_of_ble_eq_true rfl) lx0 (fun x12 μ12 hp12 => ?_)
              rw [hp12.1, hp12.2]
              refine v_ireturn (pc := 30) F dX9_crowd_30 (rfl) ?_
              simp only [s_crowd, rj, hnn, hq_k, ek_k, h1_1, h12_2, hqw, h16_10, h21_11, ↓reduceIte]
              refine ⟨?_, ?_⟩ <;> first | exact trivial | exact rfl | exact hR | exact Rel.rj hM hR (by decide)
  · skip
    refine v_iload_n (pc := 0) (i := 1) F dX9_crowd_0 rfl rfl ?_
    refine v_if_lt (pc := 1) (tgt := 24) F dX9_crowd_1 (by decide) (fun hneg_k => ?_) (fun hneg_k => ?_)
    · skip
      refine v_aload_n (pc := 24) (i := 0) F dX9_crowd_24 rfl rfl ?_
      refine v_bipush (pc := 25) (v := (-2)) F dX9_crowd_25 (by decide) ?_
      refine v_callVI (pc := 27) (As := [_]) (rest := []) (c := 9) F mX9_refuse kX9_79 im_X9_refuse se_X9_refuse dX9_crowd_27 rfl rfl (by decide) (c_X9_refuse (-2) 2 (by decide) (by decide) (by decide) _) (by decide) rfl rfl (Nat.le_of_ble_eq_true rfl) lx0 (fun x14 μ14 hp14 => ?_)
      rw [hp14.1, hp14.2]
      refine v_ireturn (pc := 30) F dX9_crowd_30 (rfl) ?_
      simp only [s_crowd, rj, hnn, hq_k, hneg_k, ↓reduceIte]
      refine ⟨?_, ?_⟩ <;> first | exact trivial | exact rfl | exact hR | exact Rel.rj hM hR (by decide)
    · skip
      refine v_iload_n (pc := 4) (i := 1) F dX9_crowd_4 rfl rfl ?_
      refine v_aload_n (pc := 5) (i := 0) F dX9_crowd_5 rfl rfl ?_
      refine v_getR (pc := 6) (o := 1) F fX9_12 dX9_crowd_6 rfl lx0 ?_
      refine v_topR (y := 1) rfl ?_
      refine v_getI (pc := 9) F fX9_299 dX9_crowd_9 rfl (lx9_0 lx0) ?_
      refine v_topE (y := nI n) (hS.1.cnt) ?_
      refine v_icmp_gt (pc := 12) (tgt := 24) F dX9_crowd_12 (by decide) (fun h12_15 => ?_) (fun h12_15 => ?_)
      · skip
        refine v_aload_n (pc := 24) (i := 0) F dX9_crowd_24 rfl rfl ?_
        refine v_bipush (pc := 25) (v := (-2)) F dX9_crowd_25 (by decide) ?_
        refine v_callVI (pc := 27) (As := [_]) (rest := []) (c := 9) F mX9_refuse kX9_79 im_X9_refuse se_X9_refuse dX9_crowd_27 rfl rfl (by decide) (c_X9_refuse (-2) 2 (by decide) (by decide) (by decide) _) (by decide) rfl rfl (Nat.le_of_ble_eq_true rfl) lx0 (fun x16 μ16 hp16 => ?_)
        rw [hp16.1, hp16.2]
        refine v_ireturn (pc := 30) F dX9_crowd_30 (rfl) ?_
        simp only [s_crowd, rj, hnn, hq_k, hneg_k, h12_15, ↓reduceIte]
        refine ⟨?_, ?_⟩ <;> first | exact trivial | exact rfl | exact hR | exact Rel.rj hM hR (by decide)
      · skip
        exact (inQ_no2 rfl (by omega) hq_k hneg_k (Int32.not_lt.mp h12_15)).elim

set_option maxRecDepth 100000 in
theorem c_X9_who (left what : Int32) (μ ν : j_M) (hM : MI ν) (hR : Rel μ ν) : Ct yX9_who cX9_who 3 (some .int) 6 ΛX [.ref 0, .int left, .int what] μ (pI fun r μ2 => r = (s_who left what ν).1 ∧ Rel μ2 (s_who left what ν).2) := by
  refine Ct.go (lo := [some (.ref 0), some (.int left), some (.int what)]) (by decide) (Nat.le_of_ble_eq_true rfl) rfl rfl (fun X F => ?_)
  have F : Fx X cX9_who RX9 6 (some .int) ΛX := F
  obtain ⟨n, hW, hsh, htp, him⟩ := id hM
  have hn := hW.1
  have hn8 := hW.2.1
  have hnn := nn_eq hn hn8
  have ho := hW.own
  have hpw := j_pw hn8
  have hS : SQ μ 1 ν.1 n := ⟨by have := hR.sc; rwa [hnn] at this, hn8⟩
  rcases inQ_c4 what with rfl | rfl | rfl | rfl | hqw
  · skip
    have hqw : inQ 4 (nI 0) = true := by decide
    have hix : ix (nI 0) = 0 := by decide
    have hc0 : (nI 0 = 0) = True := eq_true (by decide)
    have hc1 : (nI 0 = 1) = False := eq_false (by decide)
    have hc2 : (nI 0 = 2) = False := eq_false (by decide)
    have hc3 : (nI 0 = 3) = False := eq_false (by decide)
    refine v_iload_n (pc := 0) (i := 1) F dX9_who_0 rfl rfl ?_
    refine v_callSI (pc := 1) (As := [_]) (rest := []) F mX9_isPlaces kX9_305 sm_X9_isPlaces dX9_who_1 (c_X9_isPlaces _ _) (by decide) rfl rfl (Nat.le_of_ble_eq_true rfl) (fun x1 μ1 hp1 => ?_)
    rw [hp1.1, hp1.2]
    refine v_if_eq (pc := 4) (tgt := 16) F dX9_who_4 (by decide) (fun h4_2 => ?_) (fun h4_2 => ?_)
    · rw [b2i_0] at h4_2
      refine v_aload_n (pc := 16) (i := 0) F dX9_who_16 rfl rfl ?_
      refine v_bipush (pc := 17) (v := (-2)) F dX9_who_17 (by decide) ?_
      refine v_callVI (pc := 19) (As := [_]) (rest := []) (c := 9) F mX9_refuse kX9_79 im_X9_refuse se_X9_refuse dX9_who_19 rfl rfl (by decide) (c_X9_refuse (-2) 2 (by decide) (by decide) (by decide) _) (by decide) rfl rfl (Nat.le_of_ble_eq_true rfl) lx0 (fun x3 μ3 hp3 => ?_)
      rw [hp3.1, hp3.2]
      refine v_ireturn (pc := 22) F dX9_who_22 (rfl) ?_
      simp only [s_who, rj, hnn, hqw, hix, hc0, hc1, hc2, hc3, h4_2, ↓reduceIte]
      refine ⟨?_, ?_⟩ <;> first | exact trivial | exact rfl | exact hR | exact Rel.rj hM hR (by decide)
    · rw [b2i_0] at h4_2
      rw [Classical.not_not] at h4_2
      refine v_iload_n (pc := 7) (i := 2) F dX9_who_7 rfl rfl ?_
      refine v_if_lt (pc := 8) (tgt := 16) F dX9_who_8 (by decide) (fun h8_4 => ?_) (fun h8_4 => ?_)
      · rw [j_lt0 (by omega)] at h8_4
        exact absurd h8_4 (by decide)
      · rw [j_lt0 (by omega)] at h8_4
        refine v_iload_n (pc := 11) (i := 2) F dX9_who_11 rfl rfl ?_
        refine v_iconst (pc := 12) (v := nI 3) F dX9_who_12 (by decide) ?_
        refine v_icmp_le (pc := 13) (tgt := 23) F dX9_who_13 (by decide) (fun h13_5 => ?_) (fun h13_5 => ?_)
        · rw [nI_leI (by omega) (by omega)] at h13_5
          refine v_aload_n (pc := 23) (i := 0) F dX9_who_23 rfl rfl ?_
          refine v_getR (pc := 24) (o := 66) F fX9_32 dX9_who_24 rfl lx0 ?_
          refine v_topR (y := 66) rfl ?_
          refine v_aload_n (pc := 27) (i := 0) F dX9_who_27 rfl rfl ?_
          refine v_getR (pc := 28) (o := 1) F fX9_12 dX9_who_28 rfl lx0 ?_
          refine v_topR (y := 1) rfl ?_
          refine v_iload_n (pc := 31) (i := 1) F dX9_who_31 rfl rfl ?_
          refine v_callVV (pc := 32) (As := [_, _]) (rest := []) (c := 1) F mX1_findLeaving kX9_308 im_X1_findLeaving se_X1_findLeaving dX9_who_32 rfl rfl (by decide) (c_X1_findLeaving 66 (lx9_5 lx0) 1 (lx9_0 lx0) n ν.1 _ (hS) hW (by omega) _) (by decide) rfl rfl (Nat.le_of_ble_eq_true rfl) (lx9_5 lx0) (fun μ6 hp6 => ?_)
          skip
          refine v_iload_n (pc := 35) (i := 2) F dX9_who_35 rfl rfl ?_
          refine v_tin (pc := 36) (tgt := 64) F dX9_who_36 (by decide) (by decide) (by rfl) (by decide) ?_
          refine v_aload_n (pc := 64) (i := 0) F dX9_who_64 rfl rfl ?_
          refine v_getR (pc := 65) (o := 66) F fX9_32 dX9_who_65 rfl lx0 ?_
          refine v_topR (y := 66) rfl ?_
          refine v_getI (pc := 68) F fX9_293 dX9_who_68 rfl (lx9_5 lx0) ?_
          refine v_topE (y := nI ((cK (whP ν.1 n left) (2 ^ n)))) (hp6.2.1) ?_
          refine v_ireturn (pc := 71) F dX9_who_71 (rfl) ?_
          simp only [s_who, rj, hnn, hqw, hix, hc0, hc1, hc2, hc3, h4_2, h8_4, h13_5, ↓reduceIte]
          refine ⟨?_, ?_⟩ <;> first | exact trivial | exact rfl | exact (hR.X hM hp6.1 (fun c j z => by omega)) | exact Rel.rj hM hR (by decide)
        · rw [nI_leI (by omega) (by omega)] at h13_5
          exact absurd h13_5 (by decide)
  · skip
    have hqw : inQ 4 (nI 1) = true := by decide
    have hix : ix (nI 1) = 1 := by decide
    have hc0 : (nI 1 = 0) = False := eq_false (by decide)
    have hc1 : (nI 1 = 1) = True := eq_true (by decide)
    have hc2 : (nI 1 = 2) = False := eq_false (by decide)
    have hc3 : (nI 1 = 3) = False := eq_false (by decide)
    refine v_iload_n (pc := 0) (i := 1) F dX9_who_0 rfl rfl ?_
    refine v_callSI (pc := 1) (As := [_]) (rest := []) F mX9_isPlaces kX9_305 sm_X9_isPlaces dX9_who_1 (c_X9_isPlaces _ _) (by decide) rfl rfl (Nat.le_of_ble_eq_true rfl) (fun x7 μ7 hp7 => ?_)
    rw [hp7.1, hp7.2]
    refine v_if_eq (pc := 4) (tgt := 16) F dX9_who_4 (by decide) (fun h4_8 => ?_) (fun h4_8 => ?_)
    · rw [b2i_0] at h4_8
      refine v_aload_n (pc := 16) (i := 0) F dX9_who_16 rfl rfl ?_
      refine v_bipush (pc := 17) (v := (-2)) F dX9_who_17 (by decide) ?_
      refine v_callVI (pc := 19) (As := [_]) (rest := []) (c := 9) F mX9_refuse kX9_79 im_X9_refuse se_X9_refuse dX9_who_19 rfl rfl (by decide) (c_X9_refuse (-2) 2 (by decide) (by decide) (by decide) _) (by decide) rfl rfl (Nat.le_of_ble_eq_true rfl) lx0 (fun x9 μ9 hp9 => ?_)
      rw [hp9.1, hp9.2]
      refine v_ireturn (pc := 22) F dX9_who_22 (rfl) ?_
      simp only [s_who, rj, hnn, hqw, hix, hc0, hc1, hc2, hc3, h4_8, ↓reduceIte]
      refine ⟨?_, ?_⟩ <;> first | exact trivial | exact rfl | exact hR | exact Rel.rj hM hR (by decide)
    · rw [b2i_0] at h4_8
      rw [Classical.not_not] at h4_8
      refine v_iload_n (pc := 7) (i := 2) F dX9_who_7 rfl rfl ?_
      refine v_if_lt (pc := 8) (tgt := 16) F dX9_who_8 (by decide) (fun h8_10 => ?_) (fun h8_10 => ?_)
      · rw [j_lt0 (by omega)] at h8_10
        exact absurd h8_10 (by decide)
      · rw [j_lt0 (by omega)] at h8_10
        refine v_iload_n (pc := 11) (i := 2) F dX9_who_11 rfl rfl ?_
        refine v_iconst (pc := 12) (v := nI 3) F dX9_who_12 (by decide) ?_
        refine v_icmp_le (pc := 13) (tgt := 23) F dX9_who_13 (by decide) (fun h13_11 => ?_) (fun h13_11 => ?_)
        · rw [nI_leI (by omega) (by omega)] at h13_11
          refine v_aload_n (pc := 23) (i := 0) F dX9_who_23 rfl rfl ?_
          refine v_getR (pc := 24) (o := 66) F fX9_32 dX9_who_24 rfl lx0 ?_
          refine v_topR (y := 66) rfl ?_
          refine v_aload_n (pc := 27) (i := 0) F dX9_who_27 rfl rfl ?_
          refine v_getR (pc := 28) (o := 1) F fX9_12 dX9_who_28 rfl lx0 ?_
          refine v_topR (y := 1) rfl ?_
          refine v_iload_n (pc := 31) (i := 1) F dX9_who_31 rfl rfl ?_
          refine v_callVV (pc := 32) (As := [_, _]) (rest := []) (c := 1) F mX1_findLeaving kX9_308 im_X1_findLeaving se_X1_findLeaving dX9_who_32 rfl rfl (by decide) (c_X1_findLeaving 66 (lx9_5 lx0) 1 (lx9_0 lx0) n ν.1 _ (hS) hW (by omega) _) (by decide) rfl rfl (Nat.le_of_ble_eq_true rfl) (lx9_5 lx0) (fun μ12 hp12 => ?_)
          skip
          refine v_iload_n (pc := 35) (i := 2) F dX9_who_35 rfl rfl ?_
          refine v_tin (pc := 36) (tgt := 72) F dX9_who_36 (by decide) (by decide) (by rfl) (by decide) ?_
          refine v_aload_n (pc := 72) (i := 0) F dX9_who_72 rfl rfl ?_
          refine v_getR (pc := 73) (o := 66) F fX9_32 dX9_who_73 rfl lx0 ?_
          refine v_topR (y := 66) rfl ?_
          refine v_getI (pc := 76) F fX9_296 dX9_who_76 rfl (lx9_5 lx0) ?_
          refine v_topE (y := (o2i (fN (whP ν.1 n left) (2 ^ n)))) (hp12.2.2.1) ?_
          refine v_ireturn (pc := 79) F dX9_who_79 (rfl) ?_
          simp only [s_who, rj, hnn, hqw, hix, hc0, hc1, hc2, hc3, h4_8, h8_10, h13_11, ↓reduceIte]
          refine ⟨?_, ?_⟩ <;> first | exact trivial | exact rfl | exact (hR.X hM hp12.1 (fun c j z => by omega)) | exact Rel.rj hM hR (by decide)
        · rw [nI_leI (by omega) (by omega)] at h13_11
          exact absurd h13_11 (by decide)
  · skip
    have hqw : inQ 4 (nI 2) = true := by decide
    have hix : ix (nI 2) = 2 := by decide
    have hc0 : (nI 2 = 0) = False := eq_false (by decide)
    have hc1 : (nI 2 = 1) = False := eq_false (by decide)
    have hc2 : (nI 2 = 2) = True := eq_true (by decide)
    have hc3 : (nI 2 = 3) = False := eq_false (by decide)
    refine v_iload_n (pc := 0) (i := 1) F dX9_who_0 rfl rfl ?_
    refine v_callSI (pc := 1) (As := [_]) (rest := []) F mX9_isPlaces kX9_305 sm_X9_isPlaces dX9_who_1 (c_X9_isPlaces _ _) (by decide) rfl rfl (Nat.le_of_ble_eq_true rfl) (fun x13 μ13 hp13 => ?_)
    rw [hp13.1, hp13.2]
    refine v_if_eq (pc := 4) (tgt := 16) F dX9_who_4 (by decide) (fun h4_14 => ?_) (fun h4_14 => ?_)
    · rw [b2i_0] at h4_14
      refine v_aload_n (pc := 16) (i := 0) F dX9_who_16 rfl rfl ?_
      refine v_bipush (pc := 17) (v := (-2)) F dX9_who_17 (by decide) ?_
      refine v_callVI (pc := 19) (As := [_]) (rest := []) (c := 9) F mX9_refuse kX9_79 im_X9_refuse se_X9_refuse dX9_who_19 rfl rfl (by decide) (c_X9_refuse (-2) 2 (by decide) (by decide) (by decide) _) (by decide) rfl rfl (Nat.le_of_ble_eq_true rfl) lx0 (fun x15 μ15 hp15 => ?_)
      rw [hp15.1, hp15.2]
      refine v_ireturn (pc := 22) F dX9_who_22 (rfl) ?_
      simp only [s_who, rj, hnn, hqw, hix, hc0, hc1, hc2, hc3, h4_14, ↓reduceIte]
      refine ⟨?_, ?_⟩ <;> first | exact trivial | exact rfl | exact hR | exact Rel.rj hM hR (by decide)
    · rw [b2i_0] at h4_14
      rw [Classical.not_not] at h4_14
      refine v_iload_n (pc := 7) (i := 2) F dX9_who_7 rfl rfl ?_
      refine v_if_lt (pc := 8) (tgt := 16) F dX9_who_8 (by decide) (fun h8_16 => ?_) (fun h8_16 => ?_)
      · rw [j_lt0 (by omega)] at h8_16
        exact absurd h8_16 (by decide)
      · rw [j_lt0 (by omega)] at h8_16
        refine v_iload_n (pc := 11) (i := 2) F dX9_who_11 rfl rfl ?_
        refine v_iconst (pc := 12) (v := nI 3) F dX9_who_12 (by decide) ?_
        refine v_icmp_le (pc := 13) (tgt := 23) F dX9_who_13 (by decide) (fun h13_17 => ?_) (fun h13_17 => ?_)
        · rw [nI_leI (by omega) (by omega)] at h13_17
          refine v_aload_n (pc := 23) (i := 0) F dX9_who_23 rfl rfl ?_
          refine v_getR (pc := 24) (o := 66) F fX9_32 dX9_who_24 rfl lx0 ?_
          refine v_topR (y := 66) rfl ?_
          refine v_aload_n (pc := 27) (i := 0) F dX9_who_27 rfl rfl ?_
          refine v_getR (pc := 28) (o := 1) F fX9_12 dX9_who_28 rfl lx0 ?_
          refine v_topR (y := 1) rfl ?_
          refine v_iload_n (pc := 31) (i := 1) F dX9_who_31 rfl rfl ?_
          refine v_callVV (pc := 32) (As := [_, _]) (rest := []) (c := 1) F mX1_findLeaving kX9_308 im_X1_findLeaving se_X1_findLeaving dX9_who_32 rfl rfl (by decide) (c_X1_findLeaving 66 (lx9_5 lx0) 1 (lx9_0 lx0) n ν.1 _ (hS) hW (by omega) _) (by decide) rfl rfl (Nat.le_of_ble_eq_true rfl) (lx9_5 lx0) (fun μ18 hp18 => ?_)
          skip
          refine v_iload_n (pc := 35) (i := 2) F dX9_who_35 rfl rfl ?_
          refine v_tin (pc := 36) (tgt := 80) F dX9_who_36 (by decide) (by decide) (by rfl) (by decide) ?_
          refine v_aload_n (pc := 80) (i := 0) F dX9_who_80 rfl rfl ?_
          refine v_getR (pc := 81) (o := 66) F fX9_32 dX9_who_81 rfl lx0 ?_
          refine v_topR (y := 66) rfl ?_
          refine v_getI (pc := 84) F fX9_311 dX9_who_84 rfl (lx9_5 lx0) ?_
          refine v_topE (y := (anK (whP ν.1 n left) (2 ^ n))) (hp18.2.2.2.1) ?_
          refine v_ireturn (pc := 87) F dX9_who_87 (rfl) ?_
          simp only [s_who, rj, hnn, hqw, hix, hc0, hc1, hc2, hc3, h4_14, h8_16, h13_17, ↓reduceIte]
          refine ⟨?_, ?_⟩ <;> first | exact trivial | exact rfl | exact (hR.X hM hp18.1 (fun c j z => by omega)) | exact Rel.rj hM hR (by decide)
        · rw [nI_leI (by omega) (by omega)] at h13_17
          exact absurd h13_17 (by decide)
  · skip
    have hqw : inQ 4 (nI 3) = true := by decide
    have hix : ix (nI 3) = 3 := by decide
    have hc0 : (nI 3 = 0) = False := eq_false (by decide)
    have hc1 : (nI 3 = 1) = False := eq_false (by decide)
    have hc2 : (nI 3 = 2) = False := eq_false (by decide)
    have hc3 : (nI 3 = 3) = True := eq_true (by decide)
    refine v_iload_n (pc := 0) (i := 1) F dX9_who_0 rfl rfl ?_
    refine v_callSI (pc := 1) (As := [_]) (rest := []) F mX9_isPlaces kX9_305 sm_X9_isPlaces dX9_who_1 (c_X9_isPlaces _ _) (by decide) rfl rfl (Nat.le_of_ble_eq_true rfl) (fun x19 μ19 hp19 => ?_)
    rw [hp19.1, hp19.2]
    refine v_if_eq (pc := 4) (tgt := 16) F dX9_who_4 (by decide) (fun h4_20 => ?_) (fun h4_20 => ?_)
    · rw [b2i_0] at h4_20
      refine v_aload_n (pc := 16) (i := 0) F dX9_who_16 rfl rfl ?_
      refine v_bipush (pc := 17) (v := (-2)) F dX9_who_17 (by decide) ?_
      refine v_callVI (pc := 19) (As := [_]) (rest := []) (c := 9) F mX9_refuse kX9_79 im_X9_refuse se_X9_refuse dX9_who_19 rfl rfl (by decide) (c_X9_refuse (-2) 2 (by decide) (by decide) (by decide) _) (by decide) rfl rfl (Nat.le_of_ble_eq_true rfl) lx0 (fun x21 μ21 hp21 => ?_)
      rw [hp21.1, hp21.2]
      refine v_ireturn (pc := 22) F dX9_who_22 (rfl) ?_
      simp only [s_who, rj, hnn, hqw, hix, hc0, hc1, hc2, hc3, h4_20, ↓reduceIte]
      refine ⟨?_, ?_⟩ <;> first | exact trivial | exact rfl | exact hR | exact Rel.rj hM hR (by decide)
    · rw [b2i_0] at h4_20
      rw [Classical.not_not] at h4_20
      refine v_iload_n (pc := 7) (i := 2) F dX9_who_7 rfl rfl ?_
      refine v_if_lt (pc := 8) (tgt := 16) F dX9_who_8 (by decide) (fun h8_22 => ?_) (fun h8_22 => ?_)
      · rw [j_lt0 (by omega)] at h8_22
        exact absurd h8_22 (by decide)
      · rw [j_lt0 (by omega)] at h8_22
        refine v_iload_n (pc := 11) (i := 2) F dX9_who_11 rfl rfl ?_
        refine v_iconst (pc := 12) (v := nI 3) F dX9_who_12 (by decide) ?_
        refine v_icmp_le (pc := 13) (tgt := 23) F dX9_who_13 (by decide) (fun h13_23 => ?_) (fun h13_23 => ?_)
        · rw [nI_leI (by omega) (by omega)] at h13_23
          refine v_aload_n (pc := 23) (i := 0) F dX9_who_23 rfl rfl ?_
          refine v_getR (pc := 24) (o := 66) F fX9_32 dX9_who_24 rfl lx0 ?_
          refine v_topR (y := 66) rfl ?_
          refine v_aload_n (pc := 27) (i := 0) F dX9_who_27 rfl rfl ?_
          refine v_getR (pc := 28) (o := 1) F fX9_12 dX9_who_28 rfl lx0 ?_
          refine v_topR (y := 1) rfl ?_
          refine v_iload_n (pc := 31) (i := 1) F dX9_who_31 rfl rfl ?_
          refine v_callVV (pc := 32) (As := [_, _]) (rest := []) (c := 1) F mX1_findLeaving kX9_308 im_X1_findLeaving se_X1_findLeaving dX9_who_32 rfl rfl (by decide) (c_X1_findLeaving 66 (lx9_5 lx0) 1 (lx9_0 lx0) n ν.1 _ (hS) hW (by omega) _) (by decide) rfl rfl (Nat.le_of_ble_eq_true rfl) (lx9_5 lx0) (fun μ24 hp24 => ?_)
          skip
          refine v_iload_n (pc := 35) (i := 2) F dX9_who_35 rfl rfl ?_
          refine v_tout (pc := 36) (tgt := 88) F dX9_who_36 (by decide) (by decide) ?_
          refine v_aload_n (pc := 88) (i := 0) F dX9_who_88 rfl rfl ?_
          refine v_getR (pc := 89) (o := 66) F fX9_32 dX9_who_89 rfl lx0 ?_
          refine v_topR (y := 66) rfl ?_
          refine v_getI (pc := 92) F fX9_314 dX9_who_92 rfl (lx9_5 lx0) ?_
          refine v_topE (y := (orK (whP ν.1 n left) (2 ^ n))) (hp24.2.2.2.2) ?_
          refine v_ireturn (pc := 95) F dX9_who_95 (rfl) ?_
          simp only [s_who, rj, hnn, hqw, hix, hc0, hc1, hc2, hc3, h4_20, h8_22, h13_23, ↓reduceIte]
          refine ⟨?_, ?_⟩ <;> first | exact trivial | exact rfl | exact (hR.X hM hp24.1 (fun c j z => by omega)) | exact Rel.rj hM hR (by decide)
        · rw [nI_leI (by omega) (by omega)] at h13_23
          exact absurd h13_23 (by decide)
  · skip
    refine v_iload_n (pc := 0) (i := 1) F dX9_who_0 rfl rfl ?_
    refine v_callSI (pc := 1) (As := [_]) (rest := []) F mX9_isPlaces kX9_305 sm_X9_isPlaces dX9_who_1 (c_X9_isPlaces _ _) (by decide) rfl rfl (Nat.le_of_ble_eq_true rfl) (fun x25 μ25 hp25 => ?_)
    rw [hp25.1, hp25.2]
    refine v_if_eq (pc := 4) (tgt := 16) F dX9_who_4 (by decide) (fun h4_26 => ?_) (fun h4_26 => ?_)
    · rw [b2i_0] at h4_26
      refine v_aload_n (pc := 16) (i := 0) F dX9_who_16 rfl rfl ?_
      refine v_bipush (pc := 17) (v := (-2)) F dX9_who_17 (by decide) ?_
      refine v_callVI (pc := 19) (As := [_]) (rest := []) (c := 9) F mX9_refuse kX9_79 im_X9_refuse se_X9_refuse dX9_who_19 rfl rfl (by decide) (c_X9_refuse (-2) 2 (by decide) (by decide) (by decide) _) (by decide) rfl rfl (Nat.le_of_ble_eq_true rfl) lx0 (fun x27 μ27 hp27 => ?_)
      rw [hp27.1, hp27.2]
      refine v_ireturn (pc := 22) F dX9_who_22 (rfl) ?_
      simp only [s_who, rj, hnn, hqw, h4_26, ↓reduceIte]
      refine ⟨?_, ?_⟩ <;> first | exact trivial | exact rfl | exact hR | exact Rel.rj hM hR (by decide)
    · rw [b2i_0] at h4_26
      rw [Classical.not_not] at h4_26
      refine v_iload_n (pc := 7) (i := 2) F dX9_who_7 rfl rfl ?_
      refine v_if_lt (pc := 8) (tgt := 16) F dX9_who_8 (by decide) (fun hnw => ?_) (fun hnw => ?_)
      · skip
        refine v_aload_n (pc := 16) (i := 0) F dX9_who_16 rfl rfl ?_
        refine v_bipush (pc := 17) (v := (-2)) F dX9_who_17 (by decide) ?_
        refine v_callVI (pc := 19) (As := [_]) (rest := []) (c := 9) F mX9_refuse kX9_79 im_X9_refuse se_X9_refuse dX9_who_19 rfl rfl (by decide) (c_X9_refuse (-2) 2 (by decide) (by decide) (by decide) _) (by decide) rfl rfl (Nat.le_of_ble_eq_true rfl) lx0 (fun x29 μ29 hp29 => ?_)
        rw [hp29.1, hp29.2]
        refine v_ireturn (pc := 22) F dX9_who_22 (rfl) ?_
        simp only [s_who, rj, hnn, hqw, h4_26, hnw, ↓reduceIte]
        refine ⟨?_, ?_⟩ <;> first | exact trivial | exact rfl | exact hR | exact Rel.rj hM hR (by decide)
      · skip
        refine v_iload_n (pc := 11) (i := 2) F dX9_who_11 rfl rfl ?_
        refine v_iconst (pc := 12) (v := nI 3) F dX9_who_12 (by decide) ?_
        refine v_icmp_le (pc := 13) (tgt := 23) F dX9_who_13 (by decide) (fun h13_30 => ?_) (fun h13_30 => ?_)
        · skip
          exact (inQ_no2 rfl (by decide) hqw hnw h13_30).elim
        · skip
          refine v_aload_n (pc := 16) (i := 0) F dX9_who_16 rfl rfl ?_
          refine v_bipush (pc := 17) (v := (-2)) F dX9_who_17 (by decide) ?_
          refine v_callVI (pc := 19) (As := [_]) (rest := []) (c := 9) F mX9_refuse kX9_79 im_X9_refuse se_X9_refuse dX9_who_19 rfl rfl (by decide) (c_X9_refuse (-2) 2 (by decide) (by decide) (by decide) _) (by decide) rfl rfl (Nat.le_of_ble_eq_true rfl) lx0 (fun x31 μ31 hp31 => ?_)
          rw [hp31.1, hp31.2]
          refine v_ireturn (pc := 22) F dX9_who_22 (rfl) ?_
          simp only [s_who, rj, hnn, hqw, h4_26, hnw, h13_30, ↓reduceIte]
          refine ⟨?_, ?_⟩ <;> first | exact trivial | exact rfl | exact hR | exact Rel.rj hM hR (by decide)
