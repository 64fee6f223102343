/-! the reference's back, status -/
theorem bkM_0 {μ : j_M} {b : Int32} : bkM μ b 0 = μ := by
  refine Prod.ext ?_ rfl
  funext c j
  exact if_neg (by omega)
theorem bkM_o {μ : j_M} {b : Int32} {k c j : Nat} (h : ¬ (c = 10 ∧ j < k)) : (bkM μ b k).1 c j = μ.1 c j := if_neg (fun z => h ⟨z.1, z.2.1⟩)
theorem bkM_f {μ : j_M} {b : Int32} {k : Nat} (h : μ.1 10 k < b) : bkM μ b (k + 1) = bkM μ b k := by
  refine Prod.ext ?_ rfl
  funext c j
  show (if c = 10 ∧ j < k + 1 ∧ ¬ μ.1 10 j < b then -1 else μ.1 c j) = if c = 10 ∧ j < k ∧ ¬ μ.1 10 j < b then -1 else μ.1 c j
  by_cases e : c = 10 ∧ j = k
  · obtain ⟨e1, e2⟩ := e
    subst e1 e2
    rw [if_neg (fun z => z.2.2 h), if_neg (fun z => z.2.2 h)]
  · by_cases q : c = 10 ∧ j < k ∧ ¬ μ.1 10 j < b
    · rw [if_pos q, if_pos ⟨q.1, by omega, q.2.2⟩]
    · rw [if_neg q, if_neg (fun z => q ⟨z.1, by omega, z.2.2⟩)]
theorem bkM_t {μ : j_M} {b : Int32} {k : Nat} (h : ¬ μ.1 10 k < b) : bkM μ b (k + 1) = j_pI (bkM μ b k) 10 k (-1) := by
  refine Prod.ext ?_ rfl
  funext c j
  by_cases e : c = 10 ∧ j = k
  · obtain ⟨e1, e2⟩ := e
    subst e1 e2
    rw [j_pI_at]
    exact if_pos ⟨rfl, by omega, h⟩
  · rw [j_pI_off (by omega)]
    show (if c = 10 ∧ j < k + 1 ∧ ¬ μ.1 10 j < b then -1 else μ.1 c j) = if c = 10 ∧ j < k ∧ ¬ μ.1 10 j < b then -1 else μ.1 c j
    by_cases q : c = 10 ∧ j < k ∧ ¬ μ.1 10 j < b
    · rw [if_pos q, if_pos ⟨q.1, by omega, q.2.2⟩]
    · rw [if_neg q, if_neg (fun z => q ⟨z.1, by omega, z.2.2⟩)]

set_option maxRecDepth 100000 in
theorem c_X10_back  (μ : j_M) (hM : MI μ) : Ct yX10_back cX10_back 2 (some .int) 2 ΛM [.ref 0] μ (pI fun r μ2 => r = (s_back μ).1 ∧ Fm PS (s_back μ).2 μ2) := by
  refine Ct.go (lo := [some (.ref 0), none]) (by decide) (Nat.le_of_ble_eq_true rfl) rfl rfl (fun X F => ?_)
  have F : Fx X cX10_back RX10 2 (some .int) ΛM := F
  obtain ⟨n, hW, hsh, htp, him⟩ := id hM
  have hn := hW.1
  have hn8 := hW.2.1
  have hnn := nn_eq hn hn8
  have ho := hW.own
  have hrw : RW μ.1 n μ := RW.self hn
  have hpw := j_pw hn8
  refine v_aload_n (pc := 0) (i := 0) F dX10_back_0 rfl rfl ?_
  refine v_getI (pc := 1) F fX10_317 dX10_back_1 rfl lm0 ?_
  refine v_if_ne (pc := 4) (tgt := 14) F dX10_back_4 (by decide) (fun him0 => ?_) (fun him0 => ?_)
  · skip
    obtain ⟨n0, hW0⟩ : ∃ n0, WI (wold μ.1) n0 := him.elim (fun z => absurd z him0) (fun z => z.2)
    have hA1 : (AM μ aAll).1 0 1 = nI n0 := (AM_y (by decide)).trans hW0.1
    have hn08 := hW0.2.1
    refine v_aload_n (pc := 14) (i := 0) F dX10_back_14 rfl rfl ?_
    refine v_aload_n (pc := 15) (i := 0) F dX10_back_15 rfl rfl ?_
    refine v_getR (pc := 16) (o := 14) F fX10_50 dX10_back_16 rfl lm0 ?_
    refine v_topR (y := 14) rfl ?_
    refine v_callVV (pc := 19) (As := [_]) (rest := []) (c := 10) F mX10_again kX10_191 im_X10_again se_X10_again dX10_back_19 rfl rfl (by decide) (c_X10_again _) (by decide) rfl rfl (Nat.le_of_ble_eq_true rfl) lm0 (fun μ2 hp2 => ?_)
    rw [hp2]
    refine v_iconst (pc := 22) (v := nI 0) F dX10_back_22 (by decide) ?_
    refine v_istore_n (pc := 23) (lo' := [some (.ref _), some (.int _)]) F dX10_back_23 rfl rfl (Nat.le_of_ble_eq_true rfl) rfl ?_
    refine j_up 8 (fun k => ∀ μ' : j_M, (μ' = (bkM (AM μ aAll) (nI 10 + nI n0) k)) → V X _ 24 [some (.ref 0), some (.int (nI k))] [] μ') (fun k hk ih μ' hI => ?_) 0 (Nat.zero_le _) ((AM μ aAll)) (bkM_0.symm)
    refine v_iload_n (pc := 24) (i := 1) F dX10_back_24 rfl rfl ?_
    refine v_bipush (pc := 25) (v := nI 8) F dX10_back_25 (by decide) ?_
    refine v_icmp_ge (pc := 27) (tgt := 59) F dX10_back_27 (by decide) (fun h27_3 => ?_) (fun h27_3 => ?_)
    · rw [nI_leI (by omega) (by omega)] at h27_3
      refine v_iconst (pc := 59) (v := nI 1) F dX10_back_59 (by decide) ?_
      refine v_ireturn (pc := 60) F dX10_back_60 (rfl) ?_
      have e : k = 8 := by omega
      subst e
      simp only [s_back, him0, hA1, ↓reduceIte]
      refine ⟨?_, ?_⟩ <;> first | exact trivial | exact rfl | (rw [hI]; exact Fm.rf)
    · rw [nI_leI (by omega) (by omega)] at h27_3
      refine v_aload_n (pc := 30) (i := 0) F dX10_back_30 rfl rfl ?_
      refine v_getR (pc := 31) (o := 10) F fX10_37 dX10_back_31 rfl lm0 ?_
      refine v_topR (y := 10) rfl ?_
      refine v_iload_n (pc := 34) (i := 1) F dX10_back_34 rfl rfl ?_
      refine v_ialdN (pc := 35) (k0 := k) F dX10_back_35 (lm10_17 lm0) (rfl) (by omega) (by decide) ?_
      refine v_bipush (pc := 36) (v := nI 10) F dX10_back_36 (by decide) ?_
      refine v_aload_n (pc := 38) (i := 0) F dX10_back_38 rfl rfl ?_
      refine v_getI (pc := 39) F fX10_89 dX10_back_39 rfl lm0 ?_
      refine v_topE ((congrArg (fun m : j_M => m.1 0 1) hI).trans ((bkM_o (by omega)).trans hA1)) ?_
      refine v_iadd (pc := 42) F dX10_back_42 ?_
      refine v_topE (nI_add _ _) ?_
      refine v_icmp_lt (pc := 43) (tgt := 53) F dX10_back_43 (by decide) (fun hlt => ?_) (fun hlt => ?_)
      · rw [← nI_add] at hlt
        rw [show μ'.1 10 k = (AM μ aAll).1 10 k from (congrArg (fun m : j_M => m.1 10 k) hI).trans (bkM_o (by omega))] at hlt
        refine v_iinc (pc := 53) (i := 1) (v := nI (k + 1)) (lo' := [some (.ref _), some (.int _)]) F dX10_back_53 rfl (j_inc _) rfl rfl ?_
        refine v_goto (pc := 56) (tgt := 24) F dX10_back_56 (by decide) ?_
        subst hI
        refine ih (by omega) _ ?_
        first | exact (bkM_f hlt).symm | exact (bkM_t hlt).symm
      · rw [← nI_add] at hlt
        rw [show μ'.1 10 k = (AM μ aAll).1 10 k from (congrArg (fun m : j_M => m.1 10 k) hI).trans (bkM_o (by omega))] at hlt
        refine v_aload_n (pc := 46) (i := 0) F dX10_back_46 rfl rfl ?_
        refine v_getR (pc := 47) (o := 10) F fX10_37 dX10_back_47 rfl lm0 ?_
        refine v_topR (y := 10) rfl ?_
        refine v_iload_n (pc := 50) (i := 1) F dX10_back_50 rfl rfl ?_
        refine v_iconst (pc := 51) (v := (-1)) F dX10_back_51 (by decide) ?_
        refine v_iastN (pc := 52) (k0 := k) F dX10_back_52 (lm10_17 lm0) (rfl) (by omega) (by decide) ?_
        refine v_iinc (pc := 53) (i := 1) (v := nI (k + 1)) (lo' := [some (.ref _), some (.int _)]) F dX10_back_53 rfl (j_inc _) rfl rfl ?_
        refine v_goto (pc := 56) (tgt := 24) F dX10_back_56 (by decide) ?_
        subst hI
        refine ih (by omega) _ ?_
        first | exact (bkM_f hlt).symm | exact (bkM_t hlt).symm
  · skip
    refine v_aload_n (pc := 7) (i := 0) F dX10_back_7 rfl rfl ?_
    refine v_bipush (pc := 8) (v := (-5)) F dX10_back_8 (by decide) ?_
    refine v_callVI (pc := 10) (As := [_]) (rest := []) (c := 10) F mX10_no kX10_96 im_X10_no se_X10_no dX10_back_10 rfl rfl (by decide) (c_X10_no (-5) 5 (by decide) (by decide) _) (by decide) rfl rfl (Nat.le_of_ble_eq_true rfl) lm0 (fun x5 μ5 hp5 => ?_)
    rw [hp5.1, hp5.2]
    refine v_ireturn (pc := 13) F dX10_back_13 (rfl) ?_
    simp only [s_back, him0, ↓reduceIte]
    refine ⟨?_, ?_⟩ <;> first | exact trivial | exact rfl | exact Fm.rf

set_option maxRecDepth 100000 in
theorem c_X10_status (what : Int32) (μ : j_M) (hM : MI μ) : Ct yX10_status cX10_status 4 (some .int) 1 ΛM [.ref 0, .int what] μ (pI fun r μ2 => r = (s_status what μ).1 ∧ Fm PS (s_status what μ).2 μ2) := by
  refine Ct.go (lo := [some (.ref 0), some (.int what), none, none]) (by decide) (Nat.le_of_ble_eq_true rfl) rfl rfl (fun X F => ?_)
  have F : Fx X cX10_status RX10 1 (some .int) ΛM := F
  obtain ⟨n, hW, hsh, htp, him⟩ := id hM
  have hn := hW.1
  have hn8 := hW.2.1
  have hnn := nn_eq hn hn8
  have ho := hW.own
  have hrw : RW μ.1 n μ := RW.self hn
  have hpw := j_pw hn8
  refine v_iconst (pc := 0) (v := nI 0) F dX10_status_0 (by decide) ?_
  refine v_istore_n (pc := 1) (lo' := [some (.ref _), some (.int _), some (.int _), _]) F dX10_status_1 rfl rfl (Nat.le_of_ble_eq_true rfl) rfl ?_
  refine v_iload_n (pc := 2) (i := 1) F dX10_status_2 rfl rfl ?_
  by_cases hw0 : what = 0
  · refine v_tin (pc := 3) (tgt := 48) F dX10_status_3 (by rw [hw0]; decide) (by rw [hw0]; decide) (by rw [hw0]; rfl) (by decide) ?_
    refine v_aload_n (pc := 48) (i := 0) F dX10_status_48 rfl rfl ?_
    refine v_getI (pc := 49) F fX10_89 dX10_status_49 rfl lm0 ?_
    refine v_topE (hn) ?_
    refine v_ireturn (pc := 52) F dX10_status_52 (rfl) ?_
    unfold s_status
    rw [if_pos hw0]
    rw [hnn]
    exact ⟨by first | exact trivial | exact rfl | assumption, Fm.rf⟩
  by_cases hw1 : what = 1
  · refine v_tin (pc := 3) (tgt := 53) F dX10_status_3 (by rw [hw1]; decide) (by rw [hw1]; decide) (by rw [hw1]; rfl) (by decide) ?_
    refine v_iconst (pc := 53) (v := nI 0) F dX10_status_53 (by decide) ?_
    refine v_istore_n (pc := 54) (lo' := [some (.ref _), some (.int _), some (.int _), some (.int _)]) F dX10_status_54 rfl rfl (Nat.le_of_ble_eq_true rfl) rfl ?_
    refine j_up 12 (fun k => V X _ 55 [some (.ref 0), some (.int what), some (.int (nI (cK (fun p => !(μ.1 1 p == -1)) k))), some (.int (nI k))] [] μ) (fun k hk ih => ?_) 0 (Nat.zero_le _)
    refine v_iload_n (pc := 55) (i := 3) F dX10_status_55 rfl rfl ?_
    refine v_bipush (pc := 56) (v := nI 12) F dX10_status_56 (by decide) ?_
    refine v_icmp_ge (pc := 58) (tgt := 80) F dX10_status_58 (by decide) (fun h58_3 => ?_) (fun h58_3 => ?_)
    · rw [nI_leI (by omega) (by omega)] at h58_3
      refine v_iload_n (pc := 80) (i := 2) F dX10_status_80 rfl rfl ?_
      refine v_ireturn (pc := 81) F dX10_status_81 (rfl) ?_
      have e : k = 12 := by omega
      subst e
      unfold s_status
      rw [if_neg hw0, if_pos hw1]
      exact ⟨by first | exact trivial | exact rfl | assumption, Fm.rf⟩
    · rw [nI_leI (by omega) (by omega)] at h58_3
      refine v_aload_n (pc := 61) (i := 0) F dX10_status_61 rfl rfl ?_
      refine v_getR (pc := 62) (o := 1) F fX10_9 dX10_status_62 rfl lm0 ?_
      refine v_topR (y := 1) rfl ?_
      refine v_iload_n (pc := 65) (i := 3) F dX10_status_65 rfl rfl ?_
      refine v_ialdN (pc := 66) (k0 := k) F dX10_status_66 (lm10_0 lm0) (rfl) (by omega) (by decide) ?_
      refine v_iconst (pc := 67) (v := (-1)) F dX10_status_67 (by decide) ?_
      refine v_icmp_eq (pc := 68) (tgt := 74) F dX10_status_68 (by decide) (fun hc => ?_) (fun hc => ?_)
      · skip
        refine v_iinc (pc := 74) (i := 3) (v := nI (k + 1)) (lo' := [some (.ref _), some (.int _), some (.int _), some (.int _)]) F dX10_status_74 rfl (j_inc _) rfl rfl ?_
        refine v_goto (pc := 77) (tgt := 55) F dX10_status_77 (by decide) ?_
        have q := ih (by omega)
        first | (rw [cK_t (k := k) (by simpa using hc)] at q; exact q) | (rw [cK_f (k := k) (by simpa using hc)] at q; exact q)
      · skip
        refine v_iinc (pc := 71) (i := 2) (v := nI (cK (fun p => !(μ.1 1 p == -1)) k + 1)) (lo' := [some (.ref _), some (.int _), some (.int _), some (.int _)]) F dX10_status_71 rfl (j_inc _) rfl rfl ?_
        refine v_iinc (pc := 74) (i := 3) (v := nI (k + 1)) (lo' := [some (.ref _), some (.int _), some (.int _), some (.int _)]) F dX10_status_74 rfl (j_inc _) rfl rfl ?_
        refine v_goto (pc := 77) (tgt := 55) F dX10_status_77 (by decide) ?_
        have q := ih (by omega)
        first | (rw [cK_t (k := k) (by simpa using hc)] at q; exact q) | (rw [cK_f (k := k) (by simpa using hc)] at q; exact q)
  by_cases hw2 : what = 2
  · refine v_tin (pc := 3) (tgt := 82) F dX10_status_3 (by rw [hw2]; decide) (by rw [hw2]; decide) (by rw [hw2]; rfl) (by decide) ?_
    refine v_iconst (pc := 82) (v := nI 0) F dX10_status_82 (by decide) ?_
    refine v_istore_n (pc := 83) (lo' := [some (.ref _), some (.int _), some (.int _), some (.int _)]) F dX10_status_83 rfl rfl (Nat.le_of_ble_eq_true rfl) rfl ?_
    refine j_up ((8 * n)) (fun k => V X _ 84 [some (.ref 0), some (.int what), some (.int ((hasS (μ.1 8) k))), some (.int (nI k))] [] μ) (fun k hk ih => ?_) 0 (Nat.zero_le _)
    refine v_iload_n (pc := 84) (i := 3) F dX10_status_84 rfl rfl ?_
    refine v_bipush (pc := 85) (v := nI 8) F dX10_status_85 (by decide) ?_
    refine v_aload_n (pc := 87) (i := 0) F dX10_status_87 rfl rfl ?_
    refine v_getI (pc := 88) F fX10_89 dX10_status_88 rfl lm0 ?_
    refine v_topE (hn) ?_
    refine v_imul (pc := 91) F dX10_status_91 ?_
    refine v_topE (pk_mul _ _) ?_
    refine v_icmp_ge (pc := 92) (tgt := 110) F dX10_status_92 (by decide) (fun h92_6 => ?_) (fun h92_6 => ?_)
    · rw [nI_leI (by omega) (by omega)] at h92_6
      refine v_iload_n (pc := 110) (i := 2) F dX10_status_110 rfl rfl ?_
      refine v_ireturn (pc := 111) F dX10_status_111 (rfl) ?_
      have e : k = 8 * n := by omega
      subst e
      unfold s_status
      rw [if_neg hw0, if_neg hw1, if_pos hw2]
      rw [hnn]
      exact ⟨by first | exact trivial | exact rfl | assumption, Fm.rf⟩
    · rw [nI_leI (by omega) (by omega)] at h92_6
      refine v_iload_n (pc := 95) (i := 2) F dX10_status_95 rfl rfl ?_
      refine v_aload_n (pc := 96) (i := 0) F dX10_status_96 rfl rfl ?_
      refine v_getR (pc := 97) (o := 8) F fX10_31 dX10_status_97 rfl lm0 ?_
      refine v_topR (y := 8) rfl ?_
      refine v_iload_n (pc := 100) (i := 3) F dX10_status_100 rfl rfl ?_
      refine v_ialdN (pc := 101) (k0 := k) F dX10_status_101 (lm10_8 lm0) (rfl) (by omega) (by decide) ?_
      refine v_iadd (pc := 102) F dX10_status_102 ?_
      refine v_istore_n (pc := 103) (lo' := [some (.ref _), some (.int _), some (.int _), some (.int _)]) F dX10_status_103 rfl rfl (Nat.le_of_ble_eq_true rfl) rfl ?_
      refine v_iinc (pc := 104) (i := 3) (v := nI (k + 1)) (lo' := [some (.ref _), some (.int _), some (.int _), some (.int _)]) F dX10_status_104 rfl (j_inc _) rfl rfl ?_
      refine v_goto (pc := 107) (tgt := 84) F dX10_status_107 (by decide) ?_
      exact ih (by omega)
  by_cases hw3 : what = 3
  · refine v_tin (pc := 3) (tgt := 112) F dX10_status_3 (by rw [hw3]; decide) (by rw [hw3]; decide) (by rw [hw3]; rfl) (by decide) ?_
    refine v_aload_n (pc := 112) (i := 0) F dX10_status_112 rfl rfl ?_
    refine v_getI (pc := 113) F fX10_304 dX10_status_113 rfl lm0 ?_
    refine v_ireturn (pc := 116) F dX10_status_116 (rfl) ?_
    unfold s_status
    rw [if_neg hw0, if_neg hw1, if_neg hw2, if_pos hw3]
    exact ⟨by first | exact trivial | exact rfl | assumption, Fm.rf⟩
  by_cases hw4 : what = 4
  · refine v_tin (pc := 3) (tgt := 117) F dX10_status_3 (by rw [hw4]; decide) (by rw [hw4]; decide) (by rw [hw4]; rfl) (by decide) ?_
    refine v_iconst (pc := 117) (v := nI 0) F dX10_status_117 (by decide) ?_
    refine v_istore_n (pc := 118) (lo' := [some (.ref _), some (.int _), some (.int _), some (.int _)]) F dX10_status_118 rfl rfl (Nat.le_of_ble_eq_true rfl) rfl ?_
    refine j_up n (fun k => V X _ 119 [some (.ref 0), some (.int what), some (.int (nI (cK (fun l => !(μ.1 7 l == -1)) k))), some (.int (nI k))] [] μ) (fun k hk ih => ?_) 0 (Nat.zero_le _)
    refine v_iload_n (pc := 119) (i := 3) F dX10_status_119 rfl rfl ?_
    refine v_aload_n (pc := 120) (i := 0) F dX10_status_120 rfl rfl ?_
    refine v_getI (pc := 121) F fX10_89 dX10_status_121 rfl lm0 ?_
    refine v_topE (hn) ?_
    refine v_icmp_ge (pc := 124) (tgt := 146) F dX10_status_124 (by decide) (fun h124_9 => ?_) (fun h124_9 => ?_)
    · rw [nI_leI (by omega) (by omega)] at h124_9
      refine v_iload_n (pc := 146) (i := 2) F dX10_status_146 rfl rfl ?_
      refine v_ireturn (pc := 147) F dX10_status_147 (rfl) ?_
      have e : k = n := by omega
      subst e
      unfold s_status
      rw [if_neg hw0, if_neg hw1, if_neg hw2, if_neg hw3, if_pos hw4]
      rw [hnn]
      exact ⟨by first | exact trivial | exact rfl | assumption, Fm.rf⟩
    · rw [nI_leI (by omega) (by omega)] at h124_9
      refine v_aload_n (pc := 127) (i := 0) F dX10_status_127 rfl rfl ?_
      refine v_getR (pc := 128) (o := 7) F fX10_28 dX10_status_128 rfl lm0 ?_
      refine v_topR (y := 7) rfl ?_
      refine v_iload_n (pc := 131) (i := 3) F dX10_status_131 rfl rfl ?_
      refine v_ialdN (pc := 132) (k0 := k) F dX10_status_132 (lm10_7 lm0) (rfl) (by omega) (by decide) ?_
      refine v_iconst (pc := 133) (v := (-1)) F dX10_status_133 (by decide) ?_
      refine v_icmp_eq (pc := 134) (tgt := 140) F dX10_status_134 (by decide) (fun hc => ?_) (fun hc => ?_)
      · skip
        refine v_iinc (pc := 140) (i := 3) (v := nI (k + 1)) (lo' := [some (.ref _), some (.int _), some (.int _), some (.int _)]) F dX10_status_140 rfl (j_inc _) rfl rfl ?_
        refine v_goto (pc := 143) (tgt := 119) F dX10_status_143 (by decide) ?_
        have q := ih (by omega)
        first | (rw [cK_t (k := k) (by simpa using hc)] at q; exact q) | (rw [cK_f (k := k) (by simpa using hc)] at q; exact q)
      · skip
        refine v_iinc (pc := 137) (i := 2) (v := nI (cK (fun l => !(μ.1 7 l == -1)) k + 1)) (lo' := [some (.ref _), some (.int _), some (.int _), some (.int _)]) F dX10_status_137 rfl (j_inc _) rfl rfl ?_
        refine v_iinc (pc := 140) (i := 3) (v := nI (k + 1)) (lo' := [some (.ref _), some (.int _), some (.int _), some (.int _)]) F dX10_status_140 rfl (j_inc _) rfl rfl ?_
        refine v_goto (pc := 143) (tgt := 119) F dX10_status_143 (by decide) ?_
        have q := ih (by omega)
        first | (rw [cK_t (k := k) (by simpa using hc)] at q; exact q) | (rw [cK_f (k := k) (by simpa using hc)] at q; exact q)
  by_cases hw5 : what = 5
  · refine v_tin (pc := 3) (tgt := 148) F dX10_status_3 (by rw [hw5]; decide) (by rw [hw5]; decide) (by rw [hw5]; rfl) (by decide) ?_
    refine v_aload_n (pc := 148) (i := 0) F dX10_status_148 rfl rfl ?_
    refine v_getI (pc := 149) F fX10_131 dX10_status_149 rfl lm0 ?_
    refine v_ireturn (pc := 152) F dX10_status_152 (rfl) ?_
    unfold s_status
    rw [if_neg hw0, if_neg hw1, if_neg hw2, if_neg hw3, if_neg hw4, if_pos hw5]
    exact ⟨by first | exact trivial | exact rfl | assumption, Fm.rf⟩
  by_cases hw6 : what = 6
  · refine v_tin (pc := 3) (tgt := 153) F dX10_status_3 (by rw [hw6]; decide) (by rw [hw6]; decide) (by rw [hw6]; rfl) (by decide) ?_
    refine v_aload_n (pc := 153) (i := 0) F dX10_status_153 rfl rfl ?_
    refine v_getI (pc := 154) F fX10_81 dX10_status_154 rfl lm0 ?_
    refine v_ireturn (pc := 157) F dX10_status_157 (rfl) ?_
    unfold s_status
    rw [if_neg hw0, if_neg hw1, if_neg hw2, if_neg hw3, if_neg hw4, if_neg hw5, if_pos hw6]
    exact ⟨by first | exact trivial | exact rfl | assumption, Fm.rf⟩
  by_cases hw7 : what = 7
  · refine v_tin (pc := 3) (tgt := 158) F dX10_status_3 (by rw [hw7]; decide) (by rw [hw7]; decide) (by rw [hw7]; rfl) (by decide) ?_
    refine v_iconst (pc := 158) (v := nI 0) F dX10_status_158 (by decide) ?_
    refine v_istore_n (pc := 159) (lo' := [some (.ref _), some (.int _), some (.int _), some (.int _)]) F dX10_status_159 rfl rfl (Nat.le_of_ble_eq_true rfl) rfl ?_
    refine j_up 8 (fun k => V X _ 160 [some (.ref 0), some (.int what), some (.int (nI (cK (fun s => !(μ.1 10 s == -1)) k))), some (.int (nI k))] [] μ) (fun k hk ih => ?_) 0 (Nat.zero_le _)
    refine v_iload_n (pc := 160) (i := 3) F dX10_status_160 rfl rfl ?_
    refine v_bipush (pc := 161) (v := nI 8) F dX10_status_161 (by decide) ?_
    refine v_icmp_ge (pc := 163) (tgt := 185) F dX10_status_163 (by decide) (fun h163_14 => ?_) (fun h163_14 => ?_)
    · rw [nI_leI (by omega) (by omega)] at h163_14
      refine v_iload_n (pc := 185) (i := 2) F dX10_status_185 rfl rfl ?_
      refine v_ireturn (pc := 186) F dX10_status_186 (rfl) ?_
      have e : k = 8 := by omega
      subst e
      unfold s_status
      rw [if_neg hw0, if_neg hw1, if_neg hw2, if_neg hw3, if_neg hw4, if_neg hw5, if_neg hw6, if_pos hw7]
      exact ⟨by first | exact trivial | exact rfl | assumption, Fm.rf⟩
    · rw [nI_leI (by omega) (by omega)] at h163_14
      refine v_aload_n (pc := 166) (i := 0) F dX10_status_166 rfl rfl ?_
      refine v_getR (pc := 167) (o := 10) F fX10_37 dX10_status_167 rfl lm0 ?_
      refine v_topR (y := 10) rfl ?_
      refine v_iload_n (pc := 170) (i := 3) F dX10_status_170 rfl rfl ?_
      refine v_ialdN (pc := 171) (k0 := k) F dX10_status_171 (lm10_17 lm0) (rfl) (by omega) (by decide) ?_
      refine v_iconst (pc := 172) (v := (-1)) F dX10_status_172 (by decide) ?_
      refine v_icmp_eq (pc := 173) (tgt := 179) F dX10_status_173 (by decide) (fun hc => ?_) (fun hc => ?_)
      · skip
        refine v_iinc (pc := 179) (i := 3) (v := nI (k + 1)) (lo' := [some (.ref _), some (.int _), some (.int _), some (.int _)]) F dX10_status_179 rfl (j_inc _) rfl rfl ?_
        refine v_goto (pc := 182) (tgt := 160) F dX10_status_182 (by decide) ?_
        have q := ih (by omega)
        first | (rw [cK_t (k := k) (by simpa using hc)] at q; exact q) | (rw [cK_f (k := k) (by simpa using hc)] at q; exact q)
      · skip
        refine v_iinc (pc := 176) (i := 2) (v := nI (cK (fun s => !(μ.1 10 s == -1)) k + 1)) (lo' := [some (.ref _), some (.int _), some (.int _), some (.int _)]) F dX10_status_176 rfl (j_inc _) rfl rfl ?_
        refine v_iinc (pc := 179) (i := 3) (v := nI (k + 1)) (lo' := [some (.ref _), some (.int _), some (.int _), some (.int _)]) F dX10_status_179 rfl (j_inc _) rfl rfl ?_
        refine v_goto (pc := 182) (tgt := 160) F dX10_status_182 (by decide) ?_
        have q := ih (by omega)
        first | (rw [cK_t (k := k) (by simpa using hc)] at q; exact q) | (rw [cK_f (k := k) (by simpa using hc)] at q; exact q)
  refine v_tout (pc := 3) (tgt := 187) F dX10_status_3 (st_out hw0 hw1 hw2 hw3 hw4 hw5 hw6 hw7) (by decide) ?_
  refine v_iload_n (pc := 187) (i := 1) F dX10_status_187 rfl rfl ?_
  refine v_bipush (pc := 188) (v := nI 12) F dX10_status_188 (by decide) ?_
  refine v_bipush (pc := 190) (v := nI 16) F dX10_status_190 (by decide) ?_
  refine v_callSI (pc := 192) (As := [_, _, _]) (rest := []) F mX10_within kX10_85 sm_X10_within dX10_status_192 (c_X10_withinB _ 12 16 _) (by decide) rfl rfl (Nat.le_of_ble_eq_true rfl) (fun x16 μ16 hp16 => ?_)
  rw [hp16.1, hp16.2]
  refine v_if_eq (pc := 195) (tgt := 210) F dX10_status_195 (by decide) (fun hr => ?_) (fun hr => ?_)
  · rw [b2i_0] at hr
    refine v_iconst (pc := 210) (v := (-1)) F dX10_status_210 (by decide) ?_
    refine v_ireturn (pc := 211) F dX10_status_211 (rfl) ?_
    unfold s_status
    rw [if_neg hw0, if_neg hw1, if_neg hw2, if_neg hw3, if_neg hw4, if_neg hw5, if_neg hw6, if_neg hw7, ]
    rw [if_neg hr]
    exact ⟨by first | exact trivial | exact rfl | assumption, Fm.rf⟩
  · rw [b2i_0] at hr
    rw [Classical.not_not] at hr
    obtain ⟨kw, h12, h16, hwe⟩ := inB_of (by decide) (by decide) hr
    subst hwe
    have ekw : ix (nI kw) - 10 = kw - 10 := by rw [ix_nI (by omega)]
    refine v_aload_n (pc := 198) (i := 0) F dX10_status_198 rfl rfl ?_
    refine v_getR (pc := 199) (o := 13) F fX10_47 dX10_status_199 rfl lm0 ?_
    refine v_topR (y := 13) rfl ?_
    refine v_iload_n (pc := 202) (i := 1) F dX10_status_202 rfl rfl ?_
    refine v_bipush (pc := 203) (v := nI 10) F dX10_status_203 (by decide) ?_
    refine v_isub (pc := 205) F dX10_status_205 ?_
    refine v_topE (pk_sub (by omega)) ?_
    refine v_ialdN (pc := 206) (k0 := kw - 10) F dX10_status_206 (lm10_20 lm0) (rfl) (by omega) (by decide) ?_
    refine v_goto (pc := 207) (tgt := 211) F dX10_status_207 (by decide) ?_
    refine v_ireturn (pc := 211) F dX10_status_211 (rfl) ?_
    unfold s_status
    rw [if_neg hw0, if_neg hw1, if_neg hw2, if_neg hw3, if_neg hw4, if_neg hw5, if_neg hw6, if_neg hw7, ]
    rw [if_pos hr, ekw]
    exact ⟨by first | exact trivial | exact rfl | assumption, Fm.rf⟩
