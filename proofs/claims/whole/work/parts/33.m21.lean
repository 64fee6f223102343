/-! the reference's odds: methods -/
theorem od_s {w : Nat → Nat → Int32} {n p t : Nat} (h : goU w (OO w n (nI t)) (w 1) p = -1) : odK w n p (t + 1) = odK w n p t := if_pos h
theorem od_f {w : Nat → Nat → Int32} {n p t : Nat} (h : ¬ goU w (OO w n (nI t)) (w 1) p = -1) : odK w n p (t + 1) = odK w n p t + wyK (w 6) (nI t) (-1) n := if_neg h
theorem li_1 {w : Nat → Nat → Int32} {n l t : Nat} (h : ¬ tb (nI t) l = true) : liK w n l (t + 1) = liK w n l t := if_neg (fun z => h z.1)
theorem li_2 {w : Nat → Nat → Int32} {n l t : Nat} (h : ¬ gdB w (OO w n (nI t)) l = true) : liK w n l (t + 1) = liK w n l t := if_neg (fun z => h z.2)
theorem li_3 {w : Nat → Nat → Int32} {n l t : Nat} (h0 : tb (nI t) l = true) (h : gdB w (OO w n (nI t)) l = true) : liK w n l (t + 1) = liK w n l t + wyK (w 6) (nI t) (nI l) n := if_pos ⟨h0, h⟩
theorem gm_t {w : Nat → Nat → Int32} {n m t : Nat} (h : m ≤ gnE w n (nI t)) : gmK w n m (t + 1) = gmK w n m t + wyK (w 6) (nI t) (-1) n := if_pos h
theorem gm_f {w : Nat → Nat → Int32} {n m t : Nat} (h : ¬ m ≤ gnE w n (nI t)) : gmK w n m (t + 1) = gmK w n m t := if_neg h
theorem ml_s {w : Nat → Nat → Int32} {n t : Nat} : mlK w n (t + 1) = mlK w n t + wyK (w 6) (nI t) (-1) n * (jbc (lfB (goU w (OO w n (nI t)) (w 1)))).toInt64 := rfl

set_option maxRecDepth 100000 in
theorem c_X10_odds (p : Int32) (μ : j_M) (hM : MI μ) : Ct yX10_odds cX10_odds 5 (some .int) 5 ΛM [.ref 0, .int p] μ (pI fun r μ2 => r = (s_odds p μ).1 ∧ Fm PS (s_odds p μ).2 μ2) := by
  refine Ct.go (lo := [some (.ref 0), some (.int p), none, none, none]) (by decide) (Nat.le_of_ble_eq_true rfl) rfl rfl (fun X F => ?_)
  have F : Fx X cX10_odds RX10 5 (some .int) ΛM := F
  obtain ⟨n, hW, hsh, htp, him⟩ := id hM
  have hn := hW.1
  have hn8 := hW.2.1
  have hnn := nn_eq hn hn8
  have ho := hW.own
  have hrw : RW μ.1 n μ := RW.self hn
  have hpw := j_pw hn8
  refine v_iload_n (pc := 0) (i := 1) F dX10_odds_0 rfl rfl ?_
  refine v_callSI (pc := 1) (As := [_]) (rest := []) F mX10_isPlace kX10_121 sm_X10_isPlace dX10_odds_1 (c_X10_isPlace _ _) (by decide) rfl rfl (Nat.le_of_ble_eq_true rfl) (fun x1 μ1 hp1 => ?_)
  rw [hp1.1, hp1.2]
  refine v_if_ne (pc := 4) (tgt := 14) F dX10_odds_4 (by decide) (fun h4_2 => ?_) (fun h4_2 => ?_)
  · rw [b2i_0] at h4_2
    rw [Classical.not_not] at h4_2
    obtain ⟨k_p, hk_p, he_p⟩ := inR_of (by decide) h4_2
    subst he_p
    have ek_p : ix (nI k_p) = k_p := nI_clamp (by omega)
    refine v_aload_n (pc := 14) (i := 0) F dX10_odds_14 rfl rfl ?_
    refine v_getR (pc := 15) (o := 1) F fX10_9 dX10_odds_15 rfl lm0 ?_
    refine v_topR (y := 1) rfl ?_
    refine v_iload_n (pc := 18) (i := 1) F dX10_odds_18 rfl rfl ?_
    refine v_ialdN (pc := 19) (k0 := k_p) F dX10_odds_19 (lm10_0 lm0) (rfl) (by omega) (by decide) ?_
    refine v_iconst (pc := 20) (v := (-1)) F dX10_odds_20 (by decide) ?_
    refine v_icmp_ne (pc := 21) (tgt := 31) F dX10_odds_21 (by decide) (fun hp0 => ?_) (fun hp0 => ?_)
    · skip
      refine v_lconst (pc := 31) (v := 0) F dX10_odds_31 (by decide) ?_
      refine v_lstore_n (pc := 32) (lo' := [some (.ref _), some (.int _), some (.long _), _, _]) F dX10_odds_32 rfl rfl (Nat.le_of_ble_eq_true rfl) rfl ?_
      refine v_iconst (pc := 33) (v := nI 0) F dX10_odds_33 (by decide) ?_
      refine v_istore (pc := 34) (lo' := [some (.ref _), some (.int _), some (.long _), _, some (.int _)]) F dX10_odds_34 rfl (Nat.le_of_ble_eq_true rfl) rfl ?_
      refine j_up ((2 ^ n)) (fun k => ∀ μ' : j_M, (Fm PB μ μ') → V X _ 36 [some (.ref 0), some (.int (nI k_p)), some (.long ((odK μ.1 n k_p k))), none, some (.int (nI k))] [] μ') (fun k hk ih μ' hI => ?_) 0 (Nat.zero_le _) μ (Fm.rf)
      refine v_iload (pc := 36) (i := 4) F dX10_odds_36 rfl ?_
      refine v_iconst (pc := 38) (v := nI 1) F dX10_odds_38 (by decide) ?_
      refine v_aload_n (pc := 39) (i := 0) F dX10_odds_39 rfl rfl ?_
      refine v_getI (pc := 40) F fX10_89 dX10_odds_40 rfl lm0 ?_
      refine v_topE ((hrw.keep hI).2) ?_
      refine v_ishl (pc := 43) F dX10_odds_43 ?_
      refine v_topE (y := nI (2 ^ n)) (j_pow hn8) ?_
      refine v_icmp_ge (pc := 44) (tgt := 79) F dX10_odds_44 (by decide) (fun h44_4 => ?_) (fun h44_4 => ?_)
      · rw [nI_leI (by omega) (by omega)] at h44_4
        refine v_ldc2 (pc := 79) F dX10_odds_79 kcX10_261 ?_
        refine v_lload_n (pc := 82) (i := 2) F dX10_odds_82 rfl rfl ?_
        refine v_lmul (pc := 83) F dX10_odds_83 ?_
        refine v_aload_n (pc := 84) (i := 0) F dX10_odds_84 rfl rfl ?_
        refine v_iconst (pc := 85) (v := (-1)) F dX10_odds_85 (by decide) ?_
        refine v_callVJ (pc := 86) (As := [_]) (rest := [_]) (c := 10) F mX10_allWays kX10_263 im_X10_allWays se_X10_allWays dX10_odds_86 rfl rfl (by decide) (c_X10_allWays _ n μ' (hrw.keep hI).2 hn8) (by decide) rfl rfl (Nat.le_of_ble_eq_true rfl) lm0 (fun x5 μ5 hp5 => ?_)
        rw [hp5.1, hp5.2]
        refine v_ldiv (pc := 89) F dX10_odds_89 (al_ne hn8) ?_
        refine v_l2i (pc := 90) F dX10_odds_90 ?_
        refine v_ireturn (pc := 91) F dX10_odds_91 (rfl) ?_
        have e : k = 2 ^ n := by omega
        subst e
        simp only [s_odds, shr, hnn, h4_2, ek_p, hp0, h44_4, ↓reduceIte]
        exact ⟨by first | exact trivial | exact rfl, PB_PS hI⟩
      · rw [nI_leI (by omega) (by omega)] at h44_4
        refine v_aload_n (pc := 47) (i := 0) F dX10_odds_47 rfl rfl ?_
        refine v_iload (pc := 48) (i := 4) F dX10_odds_48 rfl ?_
        refine v_callVV (pc := 50) (As := [_]) (rest := []) (c := 10) F mX10_runs kX10_117 im_X10_runs se_X10_runs dX10_odds_50 rfl rfl (by decide) (c_X10_runs _ n μ.1 _ (hrw.keep hI) hn8 ho) (by decide) rfl rfl (Nat.le_of_ble_eq_true rfl) lm0 (fun μ6 hp6 => ?_)
        have hq := hp6
        have hw2 := (hrw.keep hI).keep hq.1
        have hI2 : Fm PB μ μ6 := hI.tr hq.1
        have e6 : (μ6).1 6 = μ.1 6 := funext fun j => hI2.1 6 j (by omega)
        generalize μ6 = μ'' at hq hw2 hI2 e6 ⊢
        refine v_aload_n (pc := 53) (i := 0) F dX10_odds_53 rfl rfl ?_
        refine v_getR (pc := 54) (o := 16) F fX10_56 dX10_odds_54 rfl lm0 ?_
        refine v_topR (y := 16) rfl ?_
        refine v_iload_n (pc := 57) (i := 1) F dX10_odds_57 rfl rfl ?_
        refine v_ialdN (pc := 58) (k0 := k_p) F dX10_odds_58 (lm10_24 lm0) (rfl) (by omega) (by decide) ?_
        refine v_iconst (pc := 59) (v := (-1)) F dX10_odds_59 (by decide) ?_
        refine v_icmp_eq (pc := 60) (tgt := 73) F dX10_odds_60 (by decide) (fun hb => ?_) (fun hb => ?_)
        · rw [hq.2.1 k_p (by omega)] at hb
          refine v_iinc (pc := 73) (i := 4) (v := nI (k + 1)) (lo' := [some (.ref _), some (.int _), some (.long _), _, some (.int _)]) F dX10_odds_73 rfl (j_inc _) rfl rfl ?_
          refine v_goto (pc := 76) (tgt := 36) F dX10_odds_76 (by decide) ?_
          have q := ih (by omega) μ'' hI2
          rw [od_s hb] at q
          exact q
        · rw [hq.2.1 k_p (by omega)] at hb
          refine v_lload_n (pc := 63) (i := 2) F dX10_odds_63 rfl rfl ?_
          refine v_aload_n (pc := 64) (i := 0) F dX10_odds_64 rfl rfl ?_
          refine v_iload (pc := 65) (i := 4) F dX10_odds_65 rfl ?_
          refine v_iconst (pc := 67) (v := (-1)) F dX10_odds_67 (by decide) ?_
          refine v_callVJ (pc := 68) (As := [_, _]) (rest := [_]) (c := 10) F mX10_waysOf kX10_257 im_X10_waysOf se_X10_waysOf dX10_odds_68 rfl rfl (by decide) (c_X10_waysOf _ _ n μ'' hw2.2 hn8) (by decide) rfl rfl (Nat.le_of_ble_eq_true rfl) lm0 (fun x8 μ8 hp8 => ?_)
          rw [hp8.1, hp8.2]
          refine v_ladd (pc := 71) F dX10_odds_71 ?_
          refine v_lstore_n (pc := 72) (lo' := [some (.ref _), some (.int _), some (.long _), _, some (.int _)]) F dX10_odds_72 rfl rfl (Nat.le_of_ble_eq_true rfl) rfl ?_
          refine v_iinc (pc := 73) (i := 4) (v := nI (k + 1)) (lo' := [some (.ref _), some (.int _), some (.long _), _, some (.int _)]) F dX10_odds_73 rfl (j_inc _) rfl rfl ?_
          refine v_goto (pc := 76) (tgt := 36) F dX10_odds_76 (by decide) ?_
          have q := ih (by omega) μ'' hI2
          rw [od_f hb] at q
          rw [e6]
          exact q
    · skip
      refine v_aload_n (pc := 24) (i := 0) F dX10_odds_24 rfl rfl ?_
      refine v_bipush (pc := 25) (v := (-5)) F dX10_odds_25 (by decide) ?_
      refine v_callVI (pc := 27) (As := [_]) (rest := []) (c := 10) F mX10_no kX10_96 im_X10_no se_X10_no dX10_odds_27 rfl rfl (by decide) (c_X10_no (-5) 5 (by decide) (by decide) _) (by decide) rfl rfl (Nat.le_of_ble_eq_true rfl) lm0 (fun x9 μ9 hp9 => ?_)
      rw [hp9.1, hp9.2]
      refine v_ireturn (pc := 30) F dX10_odds_30 (rfl) ?_
      simp only [s_odds, rj, hnn, h4_2, ek_p, hp0, ↓reduceIte]
      refine ⟨?_, ?_⟩ <;> first | exact trivial | exact rfl | exact Fm.rf
  · rw [b2i_0] at h4_2
    refine v_aload_n (pc := 7) (i := 0) F dX10_odds_7 rfl rfl ?_
    refine v_bipush (pc := 8) (v := (-2)) F dX10_odds_8 (by decide) ?_
    refine v_callVI (pc := 10) (As := [_]) (rest := []) (c := 10) F mX10_no kX10_96 im_X10_no se_X10_no dX10_odds_10 rfl rfl (by decide) (c_X10_no (-2) 2 (by decide) (by decide) _) (by decide) rfl rfl (Nat.le_of_ble_eq_true rfl) lm0 (fun x10 μ10 hp10 => ?_)
    rw [hp10.1, hp10.2]
    refine v_ireturn (pc := 13) F dX10_odds_13 (rfl) ?_
    simp only [s_odds, rj, hnn, h4_2, ↓reduceIte]
    refine ⟨?_, ?_⟩ <;> first | exact trivial | exact rfl | exact Fm.rf

set_option maxRecDepth 100000 in
theorem c_X10_likely (l : Int32) (μ : j_M) (hM : MI μ) : Ct yX10_likely cX10_likely 5 (some .int) 5 ΛM [.ref 0, .int l] μ (pI fun r μ2 => r = (s_likely l μ).1 ∧ Fm PS (s_likely l μ).2 μ2) := by
  refine Ct.go (lo := [some (.ref 0), some (.int l), none, none, none]) (by decide) (Nat.le_of_ble_eq_true rfl) rfl rfl (fun X F => ?_)
  have F : Fx X cX10_likely RX10 5 (some .int) ΛM := F
  obtain ⟨n, hW, hsh, htp, him⟩ := id hM
  have hn := hW.1
  have hn8 := hW.2.1
  have hnn := nn_eq hn hn8
  have ho := hW.own
  have hrw : RW μ.1 n μ := RW.self hn
  have hpw := j_pw hn8
  refine v_aload_n (pc := 0) (i := 0) F dX10_likely_0 rfl rfl ?_
  refine v_iload_n (pc := 1) (i := 1) F dX10_likely_1 rfl rfl ?_
  refine v_callVI (pc := 2) (As := [_]) (rest := []) (c := 10) F mX10_isLooker kX10_110 im_X10_isLooker se_X10_isLooker dX10_likely_2 rfl rfl (by decide) (c_X10_isLooker _ n _ (by first | exact hn | assumption) hn8) (by decide) rfl rfl (Nat.le_of_ble_eq_true rfl) lm0 (fun x1 μ1 hp1 => ?_)
  rw [hp1.1, hp1.2]
  refine v_if_ne (pc := 5) (tgt := 15) F dX10_likely_5 (by decide) (fun h5_2 => ?_) (fun h5_2 => ?_)
  · rw [b2i_0] at h5_2
    rw [Classical.not_not] at h5_2
    obtain ⟨k_l, hk_l, he_l⟩ := inR_of (by omega) h5_2
    subst he_l
    have ek_l : ix (nI k_l) = k_l := nI_clamp (by omega)
    refine v_lconst (pc := 15) (v := 0) F dX10_likely_15 (by decide) ?_
    refine v_lstore_n (pc := 16) (lo' := [some (.ref _), some (.int _), some (.long _), _, _]) F dX10_likely_16 rfl rfl (Nat.le_of_ble_eq_true rfl) rfl ?_
    refine v_iconst (pc := 17) (v := nI 0) F dX10_likely_17 (by decide) ?_
    refine v_istore (pc := 18) (lo' := [some (.ref _), some (.int _), some (.long _), _, some (.int _)]) F dX10_likely_18 rfl (Nat.le_of_ble_eq_true rfl) rfl ?_
    refine j_up ((2 ^ n)) (fun k => ∀ μ' : j_M, (Fm PB μ μ') → V X _ 20 [some (.ref 0), some (.int (nI k_l)), some (.long ((liK μ.1 n k_l k))), none, some (.int (nI k))] [] μ') (fun k hk ih μ' hI => ?_) 0 (Nat.zero_le _) μ (Fm.rf)
    refine v_iload (pc := 20) (i := 4) F dX10_likely_20 rfl ?_
    refine v_iconst (pc := 22) (v := nI 1) F dX10_likely_22 (by decide) ?_
    refine v_aload_n (pc := 23) (i := 0) F dX10_likely_23 rfl rfl ?_
    refine v_getI (pc := 24) F fX10_89 dX10_likely_24 rfl lm0 ?_
    refine v_topE ((hrw.keep hI).2) ?_
    refine v_ishl (pc := 27) F dX10_likely_27 ?_
    refine v_topE (y := nI (2 ^ n)) (j_pow hn8) ?_
    refine v_icmp_ge (pc := 28) (tgt := 73) F dX10_likely_28 (by decide) (fun h28_3 => ?_) (fun h28_3 => ?_)
    · rw [nI_leI (by omega) (by omega)] at h28_3
      refine v_ldc2 (pc := 73) F dX10_likely_73 kcX10_261 ?_
      refine v_lload_n (pc := 76) (i := 2) F dX10_likely_76 rfl rfl ?_
      refine v_lmul (pc := 77) F dX10_likely_77 ?_
      refine v_aload_n (pc := 78) (i := 0) F dX10_likely_78 rfl rfl ?_
      refine v_iload_n (pc := 79) (i := 1) F dX10_likely_79 rfl rfl ?_
      refine v_callVJ (pc := 80) (As := [_]) (rest := [_]) (c := 10) F mX10_allWays kX10_263 im_X10_allWays se_X10_allWays dX10_likely_80 rfl rfl (by decide) (c_X10_allWays _ n μ' (hrw.keep hI).2 hn8) (by decide) rfl rfl (Nat.le_of_ble_eq_true rfl) lm0 (fun x4 μ4 hp4 => ?_)
      rw [hp4.1, hp4.2]
      refine v_ldiv (pc := 83) F dX10_likely_83 (al_ne hn8) ?_
      refine v_l2i (pc := 84) F dX10_likely_84 ?_
      refine v_ireturn (pc := 85) F dX10_likely_85 (rfl) ?_
      have e : k = 2 ^ n := by omega
      subst e
      simp only [s_likely, shr, hnn, h5_2, ek_l, h28_3, ↓reduceIte]
      exact ⟨by first | exact trivial | exact rfl, PB_PS hI⟩
    · rw [nI_leI (by omega) (by omega)] at h28_3
      refine v_iload (pc := 31) (i := 4) F dX10_likely_31 rfl ?_
      refine v_iload_n (pc := 33) (i := 1) F dX10_likely_33 rfl rfl ?_
      refine v_callSI (pc := 34) (As := [_, _]) (rest := []) F mX10_in kX10_194 sm_X10_in dX10_likely_34 (c_X10_inN _ k_l (by omega) _) (by decide) rfl rfl (Nat.le_of_ble_eq_true rfl) (fun x5 μ5 hp5 => ?_)
      rw [hp5.1, hp5.2]
      refine v_if_ne (pc := 37) (tgt := 43) F dX10_likely_37 (by decide) (fun hin => ?_) (fun hin => ?_)
      · rw [b2i_0] at hin
        rw [Classical.not_not] at hin
        refine v_aload_n (pc := 43) (i := 0) F dX10_likely_43 rfl rfl ?_
        refine v_iload (pc := 44) (i := 4) F dX10_likely_44 rfl ?_
        refine v_callVV (pc := 46) (As := [_]) (rest := []) (c := 10) F mX10_runs kX10_117 im_X10_runs se_X10_runs dX10_likely_46 rfl rfl (by decide) (c_X10_runs _ n μ.1 _ (hrw.keep hI) hn8 ho) (by decide) rfl rfl (Nat.le_of_ble_eq_true rfl) lm0 (fun μ7 hp7 => ?_)
        have hq := hp7
        have hw2 := (hrw.keep hI).keep hq.1
        have hI2 : Fm PB μ μ7 := hI.tr hq.1
        have e6 : (μ7).1 6 = μ.1 6 := funext fun j => hI2.1 6 j (by omega)
        generalize μ7 = μ'' at hq hw2 hI2 e6 ⊢
        refine v_aload_n (pc := 49) (i := 0) F dX10_likely_49 rfl rfl ?_
        refine v_iload_n (pc := 50) (i := 1) F dX10_likely_50 rfl rfl ?_
        refine v_callVI (pc := 51) (As := [_]) (rest := []) (c := 10) F mX10_isGlad kX10_231 im_X10_isGlad se_X10_isGlad dX10_likely_51 rfl rfl (by decide) (c_X10_isGlad k_l (by omega) _) (by decide) rfl rfl (Nat.le_of_ble_eq_true rfl) lm0 (fun x8 μ8 hp8 => ?_)
        rw [hp8.1, hp8.2]
        refine v_if_eq (pc := 54) (tgt := 67) F dX10_likely_54 (by decide) (fun hg => ?_) (fun hg => ?_)
        · rw [b2i_0, gd_eq hw2 hq.2 (by omega)] at hg
          refine v_iinc (pc := 67) (i := 4) (v := nI (k + 1)) (lo' := [some (.ref _), some (.int _), some (.long _), _, some (.int _)]) F dX10_likely_67 rfl (j_inc _) rfl rfl ?_
          refine v_goto (pc := 70) (tgt := 20) F dX10_likely_70 (by decide) ?_
          have q := ih (by omega) μ'' hI2
          rw [li_2 hg] at q
          exact q
        · rw [b2i_0, gd_eq hw2 hq.2 (by omega)] at hg
          rw [Classical.not_not] at hg
          refine v_lload_n (pc := 57) (i := 2) F dX10_likely_57 rfl rfl ?_
          refine v_aload_n (pc := 58) (i := 0) F dX10_likely_58 rfl rfl ?_
          refine v_iload (pc := 59) (i := 4) F dX10_likely_59 rfl ?_
          refine v_iload_n (pc := 61) (i := 1) F dX10_likely_61 rfl rfl ?_
          refine v_callVJ (pc := 62) (As := [_, _]) (rest := [_]) (c := 10) F mX10_waysOf kX10_257 im_X10_waysOf se_X10_waysOf dX10_likely_62 rfl rfl (by decide) (c_X10_waysOf _ _ n μ'' hw2.2 hn8) (by decide) rfl rfl (Nat.le_of_ble_eq_true rfl) lm0 (fun x10 μ10 hp10 => ?_)
          rw [hp10.1, hp10.2]
          refine v_ladd (pc := 65) F dX10_likely_65 ?_
          refine v_lstore_n (pc := 66) (lo' := [some (.ref _), some (.int _), some (.long _), _, some (.int _)]) F dX10_likely_66 rfl rfl (Nat.le_of_ble_eq_true rfl) rfl ?_
          refine v_iinc (pc := 67) (i := 4) (v := nI (k + 1)) (lo' := [some (.ref _), some (.int _), some (.long _), _, some (.int _)]) F dX10_likely_67 rfl (j_inc _) rfl rfl ?_
          refine v_goto (pc := 70) (tgt := 20) F dX10_likely_70 (by decide) ?_
          have q := ih (by omega) μ'' hI2
          rw [li_3 hin hg] at q
          rw [e6]
          exact q
      · rw [b2i_0] at hin
        refine v_goto (pc := 40) (tgt := 67) F dX10_likely_40 (by decide) ?_
        refine v_iinc (pc := 67) (i := 4) (v := nI (k + 1)) (lo' := [some (.ref _), some (.int _), some (.long _), _, some (.int _)]) F dX10_likely_67 rfl (j_inc _) rfl rfl ?_
        refine v_goto (pc := 70) (tgt := 20) F dX10_likely_70 (by decide) ?_
        have q := ih (by omega) μ' hI
        rw [li_1 hin] at q
        exact q
  · rw [b2i_0] at h5_2
    refine v_aload_n (pc := 8) (i := 0) F dX10_likely_8 rfl rfl ?_
    refine v_bipush (pc := 9) (v := (-2)) F dX10_likely_9 (by decide) ?_
    refine v_callVI (pc := 11) (As := [_]) (rest := []) (c := 10) F mX10_no kX10_96 im_X10_no se_X10_no dX10_likely_11 rfl rfl (by decide) (c_X10_no (-2) 2 (by decide) (by decide) _) (by decide) rfl rfl (Nat.le_of_ble_eq_true rfl) lm0 (fun x11 μ11 hp11 => ?_)
    rw [hp11.1, hp11.2]
    refine v_ireturn (pc := 14) F dX10_likely_14 (rfl) ?_
    simp only [s_likely, rj, hnn, h5_2, ↓reduceIte]
    refine ⟨?_, ?_⟩ <;> first | exact trivial | exact rfl | exact Fm.rf

set_option maxRecDepth 100000 in
theorem c_X10_gladOdds (m : Int32) (μ : j_M) (hM : MI μ) : Ct yX10_gladOdds cX10_gladOdds 5 (some .int) 6 ΛM [.ref 0, .int m] μ (pI fun r μ2 => r = (s_gladOdds m μ).1 ∧ Fm PS (s_gladOdds m μ).2 μ2) := by
  refine Ct.go (lo := [some (.ref 0), some (.int m), none, none, none]) (by decide) (Nat.le_of_ble_eq_true rfl) rfl rfl (fun X F => ?_)
  have F : Fx X cX10_gladOdds RX10 6 (some .int) ΛM := F
  obtain ⟨n, hW, hsh, htp, him⟩ := id hM
  have hn := hW.1
  have hn8 := hW.2.1
  have hnn := nn_eq hn hn8
  have ho := hW.own
  have hrw : RW μ.1 n μ := RW.self hn
  have hpw := j_pw hn8
  refine v_iload_n (pc := 0) (i := 1) F dX10_gladOdds_0 rfl rfl ?_
  refine v_iconst (pc := 1) (v := nI 0) F dX10_gladOdds_1 (by decide) ?_
  refine v_bipush (pc := 2) (v := nI 8) F dX10_gladOdds_2 (by decide) ?_
  refine v_callSI (pc := 4) (As := [_, _, _]) (rest := []) F mX10_within kX10_85 sm_X10_within dX10_gladOdds_4 (c_X10_withinR _ 8 9 rfl (by decide) _) (by decide) rfl rfl (Nat.le_of_ble_eq_true rfl) (fun x1 μ1 hp1 => ?_)
  rw [hp1.1, hp1.2]
  refine v_if_ne (pc := 7) (tgt := 17) F dX10_gladOdds_7 (by decide) (fun h7_2 => ?_) (fun h7_2 => ?_)
  · rw [b2i_0] at h7_2
    rw [Classical.not_not] at h7_2
    obtain ⟨k_m, hk_m, he_m⟩ := inR_of (by decide) h7_2
    subst he_m
    have ek_m : ix (nI k_m) = k_m := nI_clamp (by omega)
    refine v_lconst (pc := 17) (v := 0) F dX10_gladOdds_17 (by decide) ?_
    refine v_lstore_n (pc := 18) (lo' := [some (.ref _), some (.int _), some (.long _), _, _]) F dX10_gladOdds_18 rfl rfl (Nat.le_of_ble_eq_true rfl) rfl ?_
    refine v_iconst (pc := 19) (v := nI 0) F dX10_gladOdds_19 (by decide) ?_
    refine v_istore (pc := 20) (lo' := [some (.ref _), some (.int _), some (.long _), _, some (.int _)]) F dX10_gladOdds_20 rfl (Nat.le_of_ble_eq_true rfl) rfl ?_
    refine j_up ((2 ^ n)) (fun k => ∀ μ' : j_M, (Fm PB μ μ') → V X _ 22 [some (.ref 0), some (.int (nI k_m)), some (.long ((gmK μ.1 n k_m k))), none, some (.int (nI k))] [] μ') (fun k hk ih μ' hI => ?_) 0 (Nat.zero_le _) μ (Fm.rf)
    refine v_iload (pc := 22) (i := 4) F dX10_gladOdds_22 rfl ?_
    refine v_iconst (pc := 24) (v := nI 1) F dX10_gladOdds_24 (by decide) ?_
    refine v_aload_n (pc := 25) (i := 0) F dX10_gladOdds_25 rfl rfl ?_
    refine v_getI (pc := 26) F fX10_89 dX10_gladOdds_26 rfl lm0 ?_
    refine v_topE ((hrw.keep hI).2) ?_
    refine v_ishl (pc := 29) F dX10_gladOdds_29 ?_
    refine v_topE (y := nI (2 ^ n)) (j_pow hn8) ?_
    refine v_icmp_ge (pc := 30) (tgt := 59) F dX10_gladOdds_30 (by decide) (fun h30_3 => ?_) (fun h30_3 => ?_)
    · rw [nI_leI (by omega) (by omega)] at h30_3
      refine v_ldc2 (pc := 59) F dX10_gladOdds_59 kcX10_261 ?_
      refine v_lload_n (pc := 62) (i := 2) F dX10_gladOdds_62 rfl rfl ?_
      refine v_lmul (pc := 63) F dX10_gladOdds_63 ?_
      refine v_aload_n (pc := 64) (i := 0) F dX10_gladOdds_64 rfl rfl ?_
      refine v_iconst (pc := 65) (v := (-1)) F dX10_gladOdds_65 (by decide) ?_
      refine v_callVJ (pc := 66) (As := [_]) (rest := [_]) (c := 10) F mX10_allWays kX10_263 im_X10_allWays se_X10_allWays dX10_gladOdds_66 rfl rfl (by decide) (c_X10_allWays _ n μ' (hrw.keep hI).2 hn8) (by decide) rfl rfl (Nat.le_of_ble_eq_true rfl) lm0 (fun x4 μ4 hp4 => ?_)
      rw [hp4.1, hp4.2]
      refine v_ldiv (pc := 69) F dX10_gladOdds_69 (al_ne hn8) ?_
      refine v_l2i (pc := 70) F dX10_gladOdds_70 ?_
      refine v_ireturn (pc := 71) F dX10_gladOdds_71 (rfl) ?_
      have e : k = 2 ^ n := by omega
      subst e
      simp only [s_gladOdds, shr, hnn, h7_2, ek_m, h30_3, ↓reduceIte]
      exact ⟨by first | exact trivial | exact rfl, PB_PS hI⟩
    · rw [nI_leI (by omega) (by omega)] at h30_3
      refine v_aload_n (pc := 33) (i := 0) F dX10_gladOdds_33 rfl rfl ?_
      refine v_iload (pc := 34) (i := 4) F dX10_gladOdds_34 rfl ?_
      refine v_callVI (pc := 36) (As := [_]) (rest := []) (c := 10) F mX10_gladOf kX10_240 im_X10_gladOf se_X10_gladOf dX10_gladOdds_36 rfl rfl (by decide) (c_X10_gladOf _ n μ.1 _ (hrw.keep hI) hn8 ho _ rfl) (by decide) rfl rfl (Nat.le_of_ble_eq_true rfl) lm0 (fun x5 μ5 hp5 => ?_)
      rw [hp5.1]
      rw [show cK (fun l => tb (nI k) l && gdB μ.1 (ordO (μ.1 4) (tb (nI k)) n) l) n = gnE μ.1 n (nI k) from rfl]
      have hq := hp5.2
      have hw2 := (hrw.keep hI).keep hq.1
      have hI2 : Fm PB μ μ5 := hI.tr hq.1
      have e6 : (μ5).1 6 = μ.1 6 := funext fun j => hI2.1 6 j (by omega)
      have hgn : gnE μ.1 n (nI k) ≤ n := cK_le _ _
      generalize μ5 = μ'' at hq hw2 hI2 e6 ⊢
      refine v_iload_n (pc := 39) (i := 1) F dX10_gladOdds_39 rfl rfl ?_
      refine v_icmp_lt (pc := 40) (tgt := 53) F dX10_gladOdds_40 (by decide) (fun hb => ?_) (fun hb => ?_)
      · rw [nI_ltI (by omega) (by omega)] at hb
        refine v_iinc (pc := 53) (i := 4) (v := nI (k + 1)) (lo' := [some (.ref _), some (.int _), some (.long _), _, some (.int _)]) F dX10_gladOdds_53 rfl (j_inc _) rfl rfl ?_
        refine v_goto (pc := 56) (tgt := 22) F dX10_gladOdds_56 (by decide) ?_
        have q := ih (by omega) μ'' hI2
        rw [gm_f (by omega)] at q
        exact q
      · rw [nI_ltI (by omega) (by omega)] at hb
        refine v_lload_n (pc := 43) (i := 2) F dX10_gladOdds_43 rfl rfl ?_
        refine v_aload_n (pc := 44) (i := 0) F dX10_gladOdds_44 rfl rfl ?_
        refine v_iload (pc := 45) (i := 4) F dX10_gladOdds_45 rfl ?_
        refine v_iconst (pc := 47) (v := (-1)) F dX10_gladOdds_47 (by decide) ?_
        refine v_callVJ (pc := 48) (As := [_, _]) (rest := [_]) (c := 10) F mX10_waysOf kX10_257 im_X10_waysOf se_X10_waysOf dX10_gladOdds_48 rfl rfl (by decide) (c_X10_waysOf _ _ n μ'' hw2.2 hn8) (by decide) rfl rfl (Nat.le_of_ble_eq_true rfl) lm0 (fun x7 μ7 hp7 => ?_)
        rw [hp7.1, hp7.2]
        refine v_ladd (pc := 51) F dX10_gladOdds_51 ?_
        refine v_lstore_n (pc := 52) (lo' := [some (.ref _), some (.int _), some (.long _), _, some (.int _)]) F dX10_gladOdds_52 rfl rfl (Nat.le_of_ble_eq_true rfl) rfl ?_
        refine v_iinc (pc := 53) (i := 4) (v := nI (k + 1)) (lo' := [some (.ref _), some (.int _), some (.long _), _, some (.int _)]) F dX10_gladOdds_53 rfl (j_inc _) rfl rfl ?_
        refine v_goto (pc := 56) (tgt := 22) F dX10_gladOdds_56 (by decide) ?_
        have q := ih (by omega) μ'' hI2
        rw [gm_t (by omega)] at q
        rw [e6]
        exact q
  · rw [b2i_0] at h7_2
    refine v_aload_n (pc := 10) (i := 0) F dX10_gladOdds_10 rfl rfl ?_
    refine v_bipush (pc := 11) (v := (-2)) F dX10_gladOdds_11 (by decide) ?_
    refine v_callVI (pc := 13) (As := [_]) (rest := []) (c := 10) F mX10_no kX10_96 im_X10_no se_X10_no dX10_gladOdds_13 rfl rfl (by decide) (c_X10_no (-2) 2 (by decide) (by decide) _) (by decide) rfl rfl (Nat.le_of_ble_eq_true rfl) lm0 (fun x8 μ8 hp8 => ?_)
    rw [hp8.1, hp8.2]
    refine v_ireturn (pc := 16) F dX10_gladOdds_16 (rfl) ?_
    simp only [s_gladOdds, rj, hnn, h7_2, ↓reduceIte]
    refine ⟨?_, ?_⟩ <;> first | exact trivial | exact rfl | exact Fm.rf

set_option maxRecDepth 100000 in
theorem c_X10_meanLeft  (μ : j_M) (hM : MI μ) : Ct yX10_meanLeft cX10_meanLeft 4 (some .int) 5 ΛM [.ref 0] μ (pI fun r μ2 => r = (s_meanLeft μ).1 ∧ Fm PS (s_meanLeft μ).2 μ2) := by
  refine Ct.go (lo := [some (.ref 0), none, none, none]) (by decide) (Nat.le_of_ble_eq_true rfl) rfl rfl (fun X F => ?_)
  have F : Fx X cX10_meanLeft RX10 5 (some .int) ΛM := F
  obtain ⟨n, hW, hsh, htp, him⟩ := id hM
  have hn := hW.1
  have hn8 := hW.2.1
  have hnn := nn_eq hn hn8
  have ho := hW.own
  have hrw : RW μ.1 n μ := RW.self hn
  have hpw := j_pw hn8
  refine v_lconst (pc := 0) (v := 0) F dX10_meanLeft_0 (by decide) ?_
  refine v_lstore_n (pc := 1) (lo' := [some (.ref _), some (.long _), _, _]) F dX10_meanLeft_1 rfl rfl (Nat.le_of_ble_eq_true rfl) rfl ?_
  refine v_iconst (pc := 2) (v := nI 0) F dX10_meanLeft_2 (by decide) ?_
  refine v_istore_n (pc := 3) (lo' := [some (.ref _), some (.long _), _, some (.int _)]) F dX10_meanLeft_3 rfl rfl (Nat.le_of_ble_eq_true rfl) rfl ?_
  refine j_up ((2 ^ n)) (fun k => ∀ μ' : j_M, (Fm PB μ μ') → V X _ 4 [some (.ref 0), some (.long ((mlK μ.1 n k))), none, some (.int (nI k))] [] μ') (fun k hk ih μ' hI => ?_) 0 (Nat.zero_le _) μ (Fm.rf)
  refine v_iload_n (pc := 4) (i := 3) F dX10_meanLeft_4 rfl rfl ?_
  refine v_iconst (pc := 5) (v := nI 1) F dX10_meanLeft_5 (by decide) ?_
  refine v_aload_n (pc := 6) (i := 0) F dX10_meanLeft_6 rfl rfl ?_
  refine v_getI (pc := 7) F fX10_89 dX10_meanLeft_7 rfl lm0 ?_
  refine v_topE ((hrw.keep hI).2) ?_
  refine v_ishl (pc := 10) F dX10_meanLeft_10 ?_
  refine v_topE (y := nI (2 ^ n)) (j_pow hn8) ?_
  refine v_icmp_ge (pc := 11) (tgt := 43) F dX10_meanLeft_11 (by decide) (fun h11_1 => ?_) (fun h11_1 => ?_)
  · rw [nI_leI (by omega) (by omega)] at h11_1
    refine v_ldc2 (pc := 43) F dX10_meanLeft_43 kcX10_267 ?_
    refine v_lload_n (pc := 46) (i := 1) F dX10_meanLeft_46 rfl rfl ?_
    refine v_lmul (pc := 47) F dX10_meanLeft_47 ?_
    refine v_aload_n (pc := 48) (i := 0) F dX10_meanLeft_48 rfl rfl ?_
    refine v_iconst (pc := 49) (v := (-1)) F dX10_meanLeft_49 (by decide) ?_
    refine v_callVJ (pc := 50) (As := [_]) (rest := [_]) (c := 10) F mX10_allWays kX10_263 im_X10_allWays se_X10_allWays dX10_meanLeft_50 rfl rfl (by decide) (c_X10_allWays _ n μ' (hrw.keep hI).2 hn8) (by decide) rfl rfl (Nat.le_of_ble_eq_true rfl) lm0 (fun x2 μ2 hp2 => ?_)
    rw [hp2.1, hp2.2]
    refine v_ldiv (pc := 53) F dX10_meanLeft_53 (al_ne hn8) ?_
    refine v_l2i (pc := 54) F dX10_meanLeft_54 ?_
    refine v_ireturn (pc := 55) F dX10_meanLeft_55 (rfl) ?_
    have e : k = 2 ^ n := by omega
    subst e
    simp only [s_meanLeft, shr, hnn, h11_1, ↓reduceIte]
    exact ⟨by first | exact trivial | exact rfl, PB_PS hI⟩
  · rw [nI_leI (by omega) (by omega)] at h11_1
    refine v_aload_n (pc := 14) (i := 0) F dX10_meanLeft_14 rfl rfl ?_
    refine v_iload_n (pc := 15) (i := 3) F dX10_meanLeft_15 rfl rfl ?_
    refine v_callVV (pc := 16) (As := [_]) (rest := []) (c := 10) F mX10_runs kX10_117 im_X10_runs se_X10_runs dX10_meanLeft_16 rfl rfl (by decide) (c_X10_runs _ n μ.1 _ (hrw.keep hI) hn8 ho) (by decide) rfl rfl (Nat.le_of_ble_eq_true rfl) lm0 (fun μ3 hp3 => ?_)
    have hq := hp3
    have hw2 := (hrw.keep hI).keep hq.1
    have hI2 : Fm PB μ μ3 := hI.tr hq.1
    have e6 : (μ3).1 6 = μ.1 6 := funext fun j => hI2.1 6 j (by omega)
    generalize μ3 = μ'' at hq hw2 hI2 e6 ⊢
    refine v_lload_n (pc := 19) (i := 1) F dX10_meanLeft_19 rfl rfl ?_
    refine v_aload_n (pc := 20) (i := 0) F dX10_meanLeft_20 rfl rfl ?_
    refine v_iload_n (pc := 21) (i := 3) F dX10_meanLeft_21 rfl rfl ?_
    refine v_iconst (pc := 22) (v := (-1)) F dX10_meanLeft_22 (by decide) ?_
    refine v_callVJ (pc := 23) (As := [_, _]) (rest := [_]) (c := 10) F mX10_waysOf kX10_257 im_X10_waysOf se_X10_waysOf dX10_meanLeft_23 rfl rfl (by decide) (c_X10_waysOf _ _ n μ'' hw2.2 hn8) (by decide) rfl rfl (Nat.le_of_ble_eq_true rfl) lm0 (fun x4 μ4 hp4 => ?_)
    rw [hp4.1, hp4.2]
    refine v_aload_n (pc := 26) (i := 0) F dX10_meanLeft_26 rfl rfl ?_
    refine v_callVI (pc := 27) (As := []) (rest := [_, _]) (c := 10) F mX10_leftThen kX10_237 im_X10_leftThen se_X10_leftThen dX10_meanLeft_27 rfl rfl (by decide) (c_X10_leftThen _) (by decide) rfl rfl (Nat.le_of_ble_eq_true rfl) lm0 (fun x5 μ5 hp5 => ?_)
    rw [hp5.1, hp5.2]
    refine v_callSI (pc := 30) (As := [_]) (rest := [_, _]) F mJ6_bitCount_0f7a4 kX10_243 sm_J6_bitCount_0f7a4 dX10_meanLeft_30 (c_J6_bc _ _ _) (by decide) rfl rfl (Nat.le_of_ble_eq_true rfl) (fun x6 μ6 hp6 => ?_)
    rw [hp6.1, hp6.2]
    refine v_i2l (pc := 33) F dX10_meanLeft_33 ?_
    refine v_lmul (pc := 34) F dX10_meanLeft_34 ?_
    refine v_ladd (pc := 35) F dX10_meanLeft_35 ?_
    refine v_lstore_n (pc := 36) (lo' := [some (.ref _), some (.long _), _, some (.int _)]) F dX10_meanLeft_36 rfl rfl (Nat.le_of_ble_eq_true rfl) rfl ?_
    refine v_iinc (pc := 37) (i := 3) (v := nI (k + 1)) (lo' := [some (.ref _), some (.long _), _, some (.int _)]) F dX10_meanLeft_37 rfl (j_inc _) rfl rfl ?_
    refine v_goto (pc := 40) (tgt := 4) F dX10_meanLeft_40 (by decide) ?_
    have q := ih (by omega) μ'' hI2
    rw [ml_s] at q
    rw [e6, lfB_eq hq.2]
    exact q
