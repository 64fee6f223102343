/-! the reference: what a window keeps ahead -/
def whd (w : Nat → Nat → Int32) : Nat → Nat → Int32 := fun c j => w 15 (if c = 0 then (if j = 1 then 124 else if j = 9 then 125 else 126) else if c = 1 then j else if c = 8 then 60 + j else 12 + 8 * (c - 2) + j)
def KN (μ : j_M) (P : Nat → Bool) : j_M := (fun c j => if c = 15 ∧ P j = true then ktV μ.1 j else μ.1 c j, μ.2)
theorem KN_w {μ : j_M} {P : Nat → Bool} {c j : Nat} (h : ¬ c = 15) : (KN μ P).1 c j = μ.1 c j := if_neg (fun z => h z.1)
theorem KN_pI {μ : j_M} {P : Nat → Bool} {i : Nat} {v : Int32} (h : v = ktV μ.1 i) : j_pI (KN μ P) 15 i v = KN μ (fun j => P j || decide (j = i)) := by
  refine Prod.ext ?_ rfl
  funext c j
  by_cases e : c = 15 ∧ j = i
  · obtain ⟨e1, e2⟩ := e
    subst e1 e2
    rw [j_pI_at, h]
    exact (if_pos ⟨rfl, by simp⟩).symm
  · rw [j_pI_off (by omega)]
    show (if c = 15 ∧ P j = true then _ else _) = if c = 15 ∧ (P j || decide (j = i)) = true then _ else _
    by_cases hc : c = 15
    · rw [show decide (j = i) = false from decide_eq_false (fun z => e ⟨hc, z⟩), Bool.or_false]
    · rw [if_neg (fun z => hc z.1), if_neg (fun z => hc z.1)]
theorem KN_congr {μ : j_M} {P Q : Nat → Bool} (h : ∀ j, P j = Q j) : KN μ P = KN μ Q := by rw [funext h]
theorem KN_0 {μ : j_M} {P : Nat → Bool} (h : ∀ j, P j = false) : KN μ P = μ := by
  refine Prod.ext ?_ rfl
  funext c j
  exact if_neg (fun z => by rw [h j] at z; exact absurd z.2 (by decide))
def AN (μ : j_M) (P : Nat → Nat → Bool) : j_M := (fun c j => if P c j = true then whd μ.1 c j else μ.1 c j, μ.2)
theorem AN_w {μ : j_M} {P : Nat → Nat → Bool} {c j : Nat} (h : ¬ P c j = true) : (AN μ P).1 c j = μ.1 c j := if_neg h
theorem AN_y {μ : j_M} {P : Nat → Nat → Bool} {c j : Nat} (h : P c j = true) : (AN μ P).1 c j = whd μ.1 c j := if_pos h
theorem AN_pI {μ : j_M} {P : Nat → Nat → Bool} {c i : Nat} {v : Int32} (h : v = whd μ.1 c i) : j_pI (AN μ P) c i v = AN μ (fun x y => P x y || decide (x = c ∧ y = i)) := by
  refine Prod.ext ?_ rfl
  funext x y
  by_cases e : x = c ∧ y = i
  · obtain ⟨e1, e2⟩ := e
    subst e1 e2
    rw [j_pI_at, h]
    exact (if_pos (by simp)).symm
  · rw [j_pI_off (by omega)]
    show (if P x y = true then _ else _) = if (P x y || decide (x = c ∧ y = i)) = true then _ else _
    rw [show decide (x = c ∧ y = i) = false from decide_eq_false e, Bool.or_false]
theorem AN_congr {μ : j_M} {P Q : Nat → Nat → Bool} (h : ∀ c j, P c j = Q c j) : AN μ P = AN μ Q := by rw [funext (fun c => funext (h c))]
theorem AN_0 {μ : j_M} {P : Nat → Nat → Bool} (h : ∀ c j, P c j = false) : AN μ P = μ := by
  refine Prod.ext ?_ rfl
  funext c j
  exact if_neg (by rw [h c j]; decide)

set_option maxRecDepth 100000 in
theorem c_X10_keep15 (μ : j_M) : Ct yX10_keep cX10_keep 3 none 0 ΛM [.ref 0, .ref 15] μ (pV fun μ2 => μ2 = KN μ kAll) := by
  refine Ct.go (lo := [some (.ref 0), some (.ref 15), none]) (by decide) (Nat.le_of_ble_eq_true rfl) rfl rfl (fun X F => ?_)
  have F : Fx X cX10_keep RX10 0 none ΛM := F
  refine v_iconst (pc := 0) (v := nI 0) F dX10_keep_0 (by decide) ?_
  refine v_istore_n (pc := 1) (lo' := [some (.ref _), some (.ref _), some (.int _)]) F dX10_keep_1 rfl rfl (Nat.le_of_ble_eq_true rfl) rfl ?_
  refine j_up 12 (fun k => ∀ μ' : j_M, (μ' = KN μ (fun j => decide (j < k))) → V X _ 2 [some (.ref 0), some (.ref 15), some (.int (nI k))] [] μ') (fun k hk ih μ' hI => ?_) 0 (Nat.zero_le _) μ (KN_0 (fun j => decide_eq_false (by omega))).symm
  refine v_iload_n (pc := 2) (i := 2) F dX10_keep_2 rfl rfl ?_
  refine v_bipush (pc := 3) (v := nI 12) F dX10_keep_3 (by decide) ?_
  refine v_icmp_ge (pc := 5) (tgt := 23) F dX10_keep_5 (by decide) (fun h5_1 => ?_) (fun h5_1 => ?_)
  · rw [nI_leI (by omega) (by omega)] at h5_1
    refine v_iconst (pc := 23) (v := nI 0) F dX10_keep_23 (by decide) ?_
    refine v_istore_n (pc := 24) (lo' := [some (.ref _), some (.ref _), some (.int _)]) F dX10_keep_24 rfl rfl (Nat.le_of_ble_eq_true rfl) rfl ?_
    refine j_up 8 (fun k => ∀ μ' : j_M, (μ' = KN μ (fun j => decide (j < 12 ∨ (12 ≤ j ∧ j < 60 ∧ (j - 12) % 8 < k)))) → V X _ 25 [some (.ref 0), some (.ref 15), some (.int (nI k))] [] μ') (fun k hk ih μ' hI => ?_) 0 (Nat.zero_le _) μ' (by rw [hI]; exact KN_congr (fun j => by refine Bool.eq_iff_iff.mpr ?_; simp only [Bool.or_eq_true, decide_eq_true_eq, kAll, aAll]; omega))
    refine v_iload_n (pc := 25) (i := 2) F dX10_keep_25 rfl rfl ?_
    refine v_bipush (pc := 26) (v := nI 8) F dX10_keep_26 (by decide) ?_
    refine v_icmp_ge (pc := 28) (tgt := 109) F dX10_keep_28 (by decide) (fun h28_2 => ?_) (fun h28_2 => ?_)
    · rw [nI_leI (by omega) (by omega)] at h28_2
      refine v_iconst (pc := 109) (v := nI 0) F dX10_keep_109 (by decide) ?_
      refine v_istore_n (pc := 110) (lo' := [some (.ref _), some (.ref _), some (.int _)]) F dX10_keep_110 rfl rfl (Nat.le_of_ble_eq_true rfl) rfl ?_
      refine j_up 64 (fun k => ∀ μ' : j_M, (μ' = KN μ (fun j => decide (j < 60 + k))) → V X _ 111 [some (.ref 0), some (.ref 15), some (.int (nI k))] [] μ') (fun k hk ih μ' hI => ?_) 0 (Nat.zero_le _) μ' (by rw [hI]; exact KN_congr (fun j => by refine Bool.eq_iff_iff.mpr ?_; simp only [Bool.or_eq_true, decide_eq_true_eq, kAll, aAll]; omega))
      refine v_iload_n (pc := 111) (i := 2) F dX10_keep_111 rfl rfl ?_
      refine v_bipush (pc := 112) (v := nI 64) F dX10_keep_112 (by decide) ?_
      refine v_icmp_ge (pc := 114) (tgt := 135) F dX10_keep_114 (by decide) (fun h114_3 => ?_) (fun h114_3 => ?_)
      · rw [nI_leI (by omega) (by omega)] at h114_3
        refine v_aload_n (pc := 135) (i := 1) F dX10_keep_135 rfl rfl ?_
        refine v_bipush (pc := 136) (v := nI 124) F dX10_keep_136 (by decide) ?_
        refine v_aload_n (pc := 138) (i := 0) F dX10_keep_138 rfl rfl ?_
        refine v_getI (pc := 139) F fX10_89 dX10_keep_139 rfl lm0 ?_
        refine v_iastN (pc := 142) (k0 := 124) F dX10_keep_142 ((lm10_23 lm0)) (rfl) (by omega) (by decide) ?_
        refine v_aload_n (pc := 143) (i := 1) F dX10_keep_143 rfl rfl ?_
        refine v_bipush (pc := 144) (v := nI 125) F dX10_keep_144 (by decide) ?_
        refine v_aload_n (pc := 146) (i := 0) F dX10_keep_146 rfl rfl ?_
        refine v_getI (pc := 147) F fX10_304 dX10_keep_147 rfl lm0 ?_
        refine v_iastN (pc := 150) (k0 := 125) F dX10_keep_150 ((lm10_23 lm0)) (rfl) (by omega) (by decide) ?_
        refine v_aload_n (pc := 151) (i := 1) F dX10_keep_151 rfl rfl ?_
        refine v_bipush (pc := 152) (v := nI 126) F dX10_keep_152 (by decide) ?_
        refine v_aload_n (pc := 154) (i := 0) F dX10_keep_154 rfl rfl ?_
        refine v_getI (pc := 155) F fX10_81 dX10_keep_155 rfl lm0 ?_
        refine v_iastN (pc := 158) (k0 := 126) F dX10_keep_158 ((lm10_23 lm0)) (rfl) (by omega) (by decide) ?_
        refine v_return (pc := 159) F dX10_keep_159 ?_
        have e : k = 64 := by omega
        subst e
        subst hI
        rw [KN_pI]
        rw [KN_pI]
        rw [KN_pI]
        · exact KN_congr (fun j => by refine Bool.eq_iff_iff.mpr ?_; simp only [Bool.or_eq_true, decide_eq_true_eq, kAll, aAll]; omega)
        · rw [KN_w (by decide)]
          rfl
        · rw [KN_w (by decide)]
          rfl
        · rw [KN_w (by decide)]
          rfl
      · rw [nI_leI (by omega) (by omega)] at h114_3
        refine v_aload_n (pc := 117) (i := 1) F dX10_keep_117 rfl rfl ?_
        refine v_bipush (pc := 118) (v := nI 60) F dX10_keep_118 (by decide) ?_
        refine v_iload_n (pc := 120) (i := 2) F dX10_keep_120 rfl rfl ?_
        refine v_iadd (pc := 121) F dX10_keep_121 ?_
        refine v_topE (nI_add _ _) ?_
        refine v_aload_n (pc := 122) (i := 0) F dX10_keep_122 rfl rfl ?_
        refine v_getR (pc := 123) (o := 8) F fX10_31 dX10_keep_123 rfl lm0 ?_
        refine v_topR (y := 8) rfl ?_
        refine v_iload_n (pc := 126) (i := 2) F dX10_keep_126 rfl rfl ?_
        refine v_ialdN (pc := 127) (k0 := k) F dX10_keep_127 (lm10_8 lm0) (rfl) (by omega) (by decide) ?_
        refine v_iastN (pc := 128) (k0 := 60 + k) F dX10_keep_128 ((lm10_23 lm0)) (rfl) (by omega) (by decide) ?_
        refine v_iinc (pc := 129) (i := 2) (v := nI (k + 1)) (lo' := [some (.ref _), some (.ref _), some (.int _)]) F dX10_keep_129 rfl (j_inc _) rfl rfl ?_
        refine v_goto (pc := 132) (tgt := 111) F dX10_keep_132 (by decide) ?_
        subst hI
        refine ih (by omega) _ ?_
        rw [KN_pI]
        · exact KN_congr (fun j => by refine Bool.eq_iff_iff.mpr ?_; simp only [Bool.or_eq_true, decide_eq_true_eq, kAll, aAll]; omega)
        · rw [KN_w (by decide)]
          unfold ktV; rw [if_neg (by omega), if_neg (by omega), if_pos (by omega), show 60 + k - 60 = k by omega]
    · rw [nI_leI (by omega) (by omega)] at h28_2
      refine v_aload_n (pc := 31) (i := 1) F dX10_keep_31 rfl rfl ?_
      refine v_bipush (pc := 32) (v := nI 12) F dX10_keep_32 (by decide) ?_
      refine v_iload_n (pc := 34) (i := 2) F dX10_keep_34 rfl rfl ?_
      refine v_iadd (pc := 35) F dX10_keep_35 ?_
      refine v_topE (nI_add _ _) ?_
      refine v_aload_n (pc := 36) (i := 0) F dX10_keep_36 rfl rfl ?_
      refine v_getR (pc := 37) (o := 2) F fX10_13 dX10_keep_37 rfl lm0 ?_
      refine v_topR (y := 2) rfl ?_
      refine v_iload_n (pc := 40) (i := 2) F dX10_keep_40 rfl rfl ?_
      refine v_ialdN (pc := 41) (k0 := k) F dX10_keep_41 (lm10_2 lm0) (rfl) (by omega) (by decide) ?_
      refine v_iastN (pc := 42) (k0 := 12 + k) F dX10_keep_42 ((lm10_23 lm0)) (rfl) (by omega) (by decide) ?_
      refine v_aload_n (pc := 43) (i := 1) F dX10_keep_43 rfl rfl ?_
      refine v_bipush (pc := 44) (v := nI 20) F dX10_keep_44 (by decide) ?_
      refine v_iload_n (pc := 46) (i := 2) F dX10_keep_46 rfl rfl ?_
      refine v_iadd (pc := 47) F dX10_keep_47 ?_
      refine v_topE (nI_add _ _) ?_
      refine v_aload_n (pc := 48) (i := 0) F dX10_keep_48 rfl rfl ?_
      refine v_getR (pc := 49) (o := 3) F fX10_16 dX10_keep_49 rfl lm0 ?_
      refine v_topR (y := 3) rfl ?_
      refine v_iload_n (pc := 52) (i := 2) F dX10_keep_52 rfl rfl ?_
      refine v_ialdN (pc := 53) (k0 := k) F dX10_keep_53 (lm10_3 lm0) (rfl) (by omega) (by decide) ?_
      refine v_iastN (pc := 54) (k0 := 20 + k) F dX10_keep_54 ((lm10_23 lm0)) (rfl) (by omega) (by decide) ?_
      refine v_aload_n (pc := 55) (i := 1) F dX10_keep_55 rfl rfl ?_
      refine v_bipush (pc := 56) (v := nI 28) F dX10_keep_56 (by decide) ?_
      refine v_iload_n (pc := 58) (i := 2) F dX10_keep_58 rfl rfl ?_
      refine v_iadd (pc := 59) F dX10_keep_59 ?_
      refine v_topE (nI_add _ _) ?_
      refine v_aload_n (pc := 60) (i := 0) F dX10_keep_60 rfl rfl ?_
      refine v_getR (pc := 61) (o := 4) F fX10_19 dX10_keep_61 rfl lm0 ?_
      refine v_topR (y := 4) rfl ?_
      refine v_iload_n (pc := 64) (i := 2) F dX10_keep_64 rfl rfl ?_
      refine v_ialdN (pc := 65) (k0 := k) F dX10_keep_65 (lm10_4 lm0) (rfl) (by omega) (by decide) ?_
      refine v_iastN (pc := 66) (k0 := 28 + k) F dX10_keep_66 ((lm10_23 lm0)) (rfl) (by omega) (by decide) ?_
      refine v_aload_n (pc := 67) (i := 1) F dX10_keep_67 rfl rfl ?_
      refine v_bipush (pc := 68) (v := nI 36) F dX10_keep_68 (by decide) ?_
      refine v_iload_n (pc := 70) (i := 2) F dX10_keep_70 rfl rfl ?_
      refine v_iadd (pc := 71) F dX10_keep_71 ?_
      refine v_topE (nI_add _ _) ?_
      refine v_aload_n (pc := 72) (i := 0) F dX10_keep_72 rfl rfl ?_
      refine v_getR (pc := 73) (o := 5) F fX10_22 dX10_keep_73 rfl lm0 ?_
      refine v_topR (y := 5) rfl ?_
      refine v_iload_n (pc := 76) (i := 2) F dX10_keep_76 rfl rfl ?_
      refine v_ialdN (pc := 77) (k0 := k) F dX10_keep_77 (lm10_5 lm0) (rfl) (by omega) (by decide) ?_
      refine v_iastN (pc := 78) (k0 := 36 + k) F dX10_keep_78 ((lm10_23 lm0)) (rfl) (by omega) (by decide) ?_
      refine v_aload_n (pc := 79) (i := 1) F dX10_keep_79 rfl rfl ?_
      refine v_bipush (pc := 80) (v := nI 44) F dX10_keep_80 (by decide) ?_
      refine v_iload_n (pc := 82) (i := 2) F dX10_keep_82 rfl rfl ?_
      refine v_iadd (pc := 83) F dX10_keep_83 ?_
      refine v_topE (nI_add _ _) ?_
      refine v_aload_n (pc := 84) (i := 0) F dX10_keep_84 rfl rfl ?_
      refine v_getR (pc := 85) (o := 6) F fX10_25 dX10_keep_85 rfl lm0 ?_
      refine v_topR (y := 6) rfl ?_
      refine v_iload_n (pc := 88) (i := 2) F dX10_keep_88 rfl rfl ?_
      refine v_ialdN (pc := 89) (k0 := k) F dX10_keep_89 (lm10_6 lm0) (rfl) (by omega) (by decide) ?_
      refine v_iastN (pc := 90) (k0 := 44 + k) F dX10_keep_90 ((lm10_23 lm0)) (rfl) (by omega) (by decide) ?_
      refine v_aload_n (pc := 91) (i := 1) F dX10_keep_91 rfl rfl ?_
      refine v_bipush (pc := 92) (v := nI 52) F dX10_keep_92 (by decide) ?_
      refine v_iload_n (pc := 94) (i := 2) F dX10_keep_94 rfl rfl ?_
      refine v_iadd (pc := 95) F dX10_keep_95 ?_
      refine v_topE (nI_add _ _) ?_
      refine v_aload_n (pc := 96) (i := 0) F dX10_keep_96 rfl rfl ?_
      refine v_getR (pc := 97) (o := 7) F fX10_28 dX10_keep_97 rfl lm0 ?_
      refine v_topR (y := 7) rfl ?_
      refine v_iload_n (pc := 100) (i := 2) F dX10_keep_100 rfl rfl ?_
      refine v_ialdN (pc := 101) (k0 := k) F dX10_keep_101 (lm10_7 lm0) (rfl) (by omega) (by decide) ?_
      refine v_iastN (pc := 102) (k0 := 52 + k) F dX10_keep_102 ((lm10_23 lm0)) (rfl) (by omega) (by decide) ?_
      refine v_iinc (pc := 103) (i := 2) (v := nI (k + 1)) (lo' := [some (.ref _), some (.ref _), some (.int _)]) F dX10_keep_103 rfl (j_inc _) rfl rfl ?_
      refine v_goto (pc := 106) (tgt := 25) F dX10_keep_106 (by decide) ?_
      subst hI
      refine ih (by omega) _ ?_
      rw [KN_pI]
      rw [KN_pI]
      rw [KN_pI]
      rw [KN_pI]
      rw [KN_pI]
      rw [KN_pI]
      · exact KN_congr (fun j => by refine Bool.eq_iff_iff.mpr ?_; simp only [Bool.or_eq_true, decide_eq_true_eq, kAll, aAll]; omega)
      · rw [KN_w (by decide)]
        exact kt_l (d := 5) (k := k) (by omega) (by omega)
      · rw [KN_w (by decide)]
        exact kt_l (d := 4) (k := k) (by omega) (by omega)
      · rw [KN_w (by decide)]
        exact kt_l (d := 3) (k := k) (by omega) (by omega)
      · rw [KN_w (by decide)]
        exact kt_l (d := 2) (k := k) (by omega) (by omega)
      · rw [KN_w (by decide)]
        exact kt_l (d := 1) (k := k) (by omega) (by omega)
      · rw [KN_w (by decide)]
        exact kt_l (d := 0) (k := k) (by omega) (by omega)
  · rw [nI_leI (by omega) (by omega)] at h5_1
    refine v_aload_n (pc := 8) (i := 1) F dX10_keep_8 rfl rfl ?_
    refine v_iload_n (pc := 9) (i := 2) F dX10_keep_9 rfl rfl ?_
    refine v_aload_n (pc := 10) (i := 0) F dX10_keep_10 rfl rfl ?_
    refine v_getR (pc := 11) (o := 1) F fX10_9 dX10_keep_11 rfl lm0 ?_
    refine v_topR (y := 1) rfl ?_
    refine v_iload_n (pc := 14) (i := 2) F dX10_keep_14 rfl rfl ?_
    refine v_ialdN (pc := 15) (k0 := k) F dX10_keep_15 (lm10_0 lm0) (rfl) (by omega) (by decide) ?_
    refine v_iastN (pc := 16) (k0 := k) F dX10_keep_16 ((lm10_23 lm0)) (rfl) (by omega) (by decide) ?_
    refine v_iinc (pc := 17) (i := 2) (v := nI (k + 1)) (lo' := [some (.ref _), some (.ref _), some (.int _)]) F dX10_keep_17 rfl (j_inc _) rfl rfl ?_
    refine v_goto (pc := 20) (tgt := 2) F dX10_keep_20 (by decide) ?_
    subst hI
    refine ih (by omega) _ ?_
    rw [KN_pI]
    · exact KN_congr (fun j => by refine Bool.eq_iff_iff.mpr ?_; simp only [Bool.or_eq_true, decide_eq_true_eq, kAll, aAll]; omega)
    · rw [KN_w (by decide)]
      unfold ktV; rw [if_pos (by omega)]

set_option maxRecDepth 100000 in
theorem c_X10_again15 (μ : j_M) : Ct yX10_again cX10_again 3 none 0 ΛM [.ref 0, .ref 15] μ (pV fun μ2 => μ2 = AN μ aAll) := by
  refine Ct.go (lo := [some (.ref 0), some (.ref 15), none]) (by decide) (Nat.le_of_ble_eq_true rfl) rfl rfl (fun X F => ?_)
  have F : Fx X cX10_again RX10 0 none ΛM := F
  refine v_iconst (pc := 0) (v := nI 0) F dX10_again_0 (by decide) ?_
  refine v_istore_n (pc := 1) (lo' := [some (.ref _), some (.ref _), some (.int _)]) F dX10_again_1 rfl rfl (Nat.le_of_ble_eq_true rfl) rfl ?_
  refine j_up 12 (fun k => ∀ μ' : j_M, (μ' = AN μ (fun c j => decide (c = 1 ∧ j < k))) → V X _ 2 [some (.ref 0), some (.ref 15), some (.int (nI k))] [] μ') (fun k hk ih μ' hI => ?_) 0 (Nat.zero_le _) μ (AN_0 (fun c j => decide_eq_false (by omega))).symm
  refine v_iload_n (pc := 2) (i := 2) F dX10_again_2 rfl rfl ?_
  refine v_bipush (pc := 3) (v := nI 12) F dX10_again_3 (by decide) ?_
  refine v_icmp_ge (pc := 5) (tgt := 23) F dX10_again_5 (by decide) (fun h5_1 => ?_) (fun h5_1 => ?_)
  · rw [nI_leI (by omega) (by omega)] at h5_1
    refine v_iconst (pc := 23) (v := nI 0) F dX10_again_23 (by decide) ?_
    refine v_istore_n (pc := 24) (lo' := [some (.ref _), some (.ref _), some (.int _)]) F dX10_again_24 rfl rfl (Nat.le_of_ble_eq_true rfl) rfl ?_
    refine j_up 8 (fun k => ∀ μ' : j_M, (μ' = AN μ (fun c j => decide ((c = 1 ∧ j < 12) ∨ (2 ≤ c ∧ c ≤ 7 ∧ j < k)))) → V X _ 25 [some (.ref 0), some (.ref 15), some (.int (nI k))] [] μ') (fun k hk ih μ' hI => ?_) 0 (Nat.zero_le _) μ' (by rw [hI]; exact AN_congr (fun c j => by refine Bool.eq_iff_iff.mpr ?_; simp only [Bool.or_eq_true, decide_eq_true_eq, kAll, aAll]; omega))
    refine v_iload_n (pc := 25) (i := 2) F dX10_again_25 rfl rfl ?_
    refine v_bipush (pc := 26) (v := nI 8) F dX10_again_26 (by decide) ?_
    refine v_icmp_ge (pc := 28) (tgt := 109) F dX10_again_28 (by decide) (fun h28_2 => ?_) (fun h28_2 => ?_)
    · rw [nI_leI (by omega) (by omega)] at h28_2
      refine v_iconst (pc := 109) (v := nI 0) F dX10_again_109 (by decide) ?_
      refine v_istore_n (pc := 110) (lo' := [some (.ref _), some (.ref _), some (.int _)]) F dX10_again_110 rfl rfl (Nat.le_of_ble_eq_true rfl) rfl ?_
      refine j_up 64 (fun k => ∀ μ' : j_M, (μ' = AN μ (fun c j => decide ((c = 1 ∧ j < 12) ∨ (2 ≤ c ∧ c ≤ 7 ∧ j < 8) ∨ (c = 8 ∧ j < k)))) → V X _ 111 [some (.ref 0), some (.ref 15), some (.int (nI k))] [] μ') (fun k hk ih μ' hI => ?_) 0 (Nat.zero_le _) μ' (by rw [hI]; exact AN_congr (fun c j => by refine Bool.eq_iff_iff.mpr ?_; simp only [Bool.or_eq_true, decide_eq_true_eq, kAll, aAll]; omega))
      refine v_iload_n (pc := 111) (i := 2) F dX10_again_111 rfl rfl ?_
      refine v_bipush (pc := 112) (v := nI 64) F dX10_again_112 (by decide) ?_
      refine v_icmp_ge (pc := 114) (tgt := 135) F dX10_again_114 (by decide) (fun h114_3 => ?_) (fun h114_3 => ?_)
      · rw [nI_leI (by omega) (by omega)] at h114_3
        refine v_aload_n (pc := 135) (i := 0) F dX10_again_135 rfl rfl ?_
        refine v_aload_n (pc := 136) (i := 1) F dX10_again_136 rfl rfl ?_
        refine v_bipush (pc := 137) (v := nI 124) F dX10_again_137 (by decide) ?_
        refine v_ialdN (pc := 139) (k0 := 124) F dX10_again_139 ((lm10_23 lm0)) (rfl) (by omega) (by decide) ?_
        refine v_put (pc := 140) F fX10_89 dX10_again_140 rfl rfl rfl lm0 ?_
        refine v_aload_n (pc := 143) (i := 0) F dX10_again_143 rfl rfl ?_
        refine v_aload_n (pc := 144) (i := 1) F dX10_again_144 rfl rfl ?_
        refine v_bipush (pc := 145) (v := nI 125) F dX10_again_145 (by decide) ?_
        refine v_ialdN (pc := 147) (k0 := 125) F dX10_again_147 ((lm10_23 lm0)) (rfl) (by omega) (by decide) ?_
        refine v_put (pc := 148) F fX10_304 dX10_again_148 rfl rfl rfl lm0 ?_
        refine v_aload_n (pc := 151) (i := 0) F dX10_again_151 rfl rfl ?_
        refine v_aload_n (pc := 152) (i := 1) F dX10_again_152 rfl rfl ?_
        refine v_bipush (pc := 153) (v := nI 126) F dX10_again_153 (by decide) ?_
        refine v_ialdN (pc := 155) (k0 := 126) F dX10_again_155 ((lm10_23 lm0)) (rfl) (by omega) (by decide) ?_
        refine v_put (pc := 156) F fX10_81 dX10_again_156 rfl rfl rfl lm0 ?_
        refine v_return (pc := 159) F dX10_again_159 ?_
        have e : k = 64 := by omega
        subst e
        subst hI
        rw [AN_pI]
        rw [AN_pI]
        rw [AN_pI]
        · exact AN_congr (fun c j => by refine Bool.eq_iff_iff.mpr ?_; simp only [Bool.or_eq_true, decide_eq_true_eq, kAll, aAll]; omega)
        · rw [AN_w (by simp)]
          rfl
        · rw [AN_w (by simp)]
          rfl
        · rw [AN_w (by simp)]
          rfl
      · rw [nI_leI (by omega) (by omega)] at h114_3
        refine v_aload_n (pc := 117) (i := 0) F dX10_again_117 rfl rfl ?_
        refine v_getR (pc := 118) (o := 8) F fX10_31 dX10_again_118 rfl lm0 ?_
        refine v_topR (y := 8) rfl ?_
        refine v_iload_n (pc := 121) (i := 2) F dX10_again_121 rfl rfl ?_
        refine v_aload_n (pc := 122) (i := 1) F dX10_again_122 rfl rfl ?_
        refine v_bipush (pc := 123) (v := nI 60) F dX10_again_123 (by decide) ?_
        refine v_iload_n (pc := 125) (i := 2) F dX10_again_125 rfl rfl ?_
        refine v_iadd (pc := 126) F dX10_again_126 ?_
        refine v_topE (nI_add _ _) ?_
        refine v_ialdN (pc := 127) (k0 := 60 + k) F dX10_again_127 ((lm10_23 lm0)) (rfl) (by omega) (by decide) ?_
        refine v_iastN (pc := 128) (k0 := k) F dX10_again_128 (lm10_8 lm0) (rfl) (by omega) (by decide) ?_
        refine v_iinc (pc := 129) (i := 2) (v := nI (k + 1)) (lo' := [some (.ref _), some (.ref _), some (.int _)]) F dX10_again_129 rfl (j_inc _) rfl rfl ?_
        refine v_goto (pc := 132) (tgt := 111) F dX10_again_132 (by decide) ?_
        subst hI
        refine ih (by omega) _ ?_
        rw [AN_pI]
        · exact AN_congr (fun c j => by refine Bool.eq_iff_iff.mpr ?_; simp only [Bool.or_eq_true, decide_eq_true_eq, kAll, aAll]; omega)
        · rw [AN_w (by simp)]
          rfl
    · rw [nI_leI (by omega) (by omega)] at h28_2
      refine v_aload_n (pc := 31) (i := 0) F dX10_again_31 rfl rfl ?_
      refine v_getR (pc := 32) (o := 2) F fX10_13 dX10_again_32 rfl lm0 ?_
      refine v_topR (y := 2) rfl ?_
      refine v_iload_n (pc := 35) (i := 2) F dX10_again_35 rfl rfl ?_
      refine v_aload_n (pc := 36) (i := 1) F dX10_again_36 rfl rfl ?_
      refine v_bipush (pc := 37) (v := nI 12) F dX10_again_37 (by decide) ?_
      refine v_iload_n (pc := 39) (i := 2) F dX10_again_39 rfl rfl ?_
      refine v_iadd (pc := 40) F dX10_again_40 ?_
      refine v_topE (nI_add _ _) ?_
      refine v_ialdN (pc := 41) (k0 := 12 + k) F dX10_again_41 ((lm10_23 lm0)) (rfl) (by omega) (by decide) ?_
      refine v_iastN (pc := 42) (k0 := k) F dX10_again_42 (lm10_2 lm0) (rfl) (by omega) (by decide) ?_
      refine v_aload_n (pc := 43) (i := 0) F dX10_again_43 rfl rfl ?_
      refine v_getR (pc := 44) (o := 3) F fX10_16 dX10_again_44 rfl lm0 ?_
      refine v_topR (y := 3) rfl ?_
      refine v_iload_n (pc := 47) (i := 2) F dX10_again_47 rfl rfl ?_
      refine v_aload_n (pc := 48) (i := 1) F dX10_again_48 rfl rfl ?_
      refine v_bipush (pc := 49) (v := nI 20) F dX10_again_49 (by decide) ?_
      refine v_iload_n (pc := 51) (i := 2) F dX10_again_51 rfl rfl ?_
      refine v_iadd (pc := 52) F dX10_again_52 ?_
      refine v_topE (nI_add _ _) ?_
      refine v_ialdN (pc := 53) (k0 := 20 + k) F dX10_again_53 ((lm10_23 lm0)) (rfl) (by omega) (by decide) ?_
      refine v_iastN (pc := 54) (k0 := k) F dX10_again_54 (lm10_3 lm0) (rfl) (by omega) (by decide) ?_
      refine v_aload_n (pc := 55) (i := 0) F dX10_again_55 rfl rfl ?_
      refine v_getR (pc := 56) (o := 4) F fX10_19 dX10_again_56 rfl lm0 ?_
      refine v_topR (y := 4) rfl ?_
      refine v_iload_n (pc := 59) (i := 2) F dX10_again_59 rfl rfl ?_
      refine v_aload_n (pc := 60) (i := 1) F dX10_again_60 rfl rfl ?_
      refine v_bipush (pc := 61) (v := nI 28) F dX10_again_61 (by decide) ?_
      refine v_iload_n (pc := 63) (i := 2) F dX10_again_63 rfl rfl ?_
      refine v_iadd (pc := 64) F dX10_again_64 ?_
      refine v_topE (nI_add _ _) ?_
      refine v_ialdN (pc := 65) (k0 := 28 + k) F dX10_again_65 ((lm10_23 lm0)) (rfl) (by omega) (by decide) ?_
      refine v_iastN (pc := 66) (k0 := k) F dX10_again_66 (lm10_4 lm0) (rfl) (by omega) (by decide) ?_
      refine v_aload_n (pc := 67) (i := 0) F dX10_again_67 rfl rfl ?_
      refine v_getR (pc := 68) (o := 5) F fX10_22 dX10_again_68 rfl lm0 ?_
      refine v_topR (y := 5) rfl ?_
      refine v_iload_n (pc := 71) (i := 2) F dX10_again_71 rfl rfl ?_
      refine v_aload_n (pc := 72) (i := 1) F dX10_again_72 rfl rfl ?_
      refine v_bipush (pc := 73) (v := nI 36) F dX10_again_73 (by decide) ?_
      refine v_iload_n (pc := 75) (i := 2) F dX10_again_75 rfl rfl ?_
      refine v_iadd (pc := 76) F dX10_again_76 ?_
      refine v_topE (nI_add _ _) ?_
      refine v_ialdN (pc := 77) (k0 := 36 + k) F dX10_again_77 ((lm10_23 lm0)) (rfl) (by omega) (by decide) ?_
      refine v_iastN (pc := 78) (k0 := k) F dX10_again_78 (lm10_5 lm0) (rfl) (by omega) (by decide) ?_
      refine v_aload_n (pc := 79) (i := 0) F dX10_again_79 rfl rfl ?_
      refine v_getR (pc := 80) (o := 6) F fX10_25 dX10_again_80 rfl lm0 ?_
      refine v_topR (y := 6) rfl ?_
      refine v_iload_n (pc := 83) (i := 2) F dX10_again_83 rfl rfl ?_
      refine v_aload_n (pc := 84) (i := 1) F dX10_again_84 rfl rfl ?_
      refine v_bipush (pc := 85) (v := nI 44) F dX10_again_85 (by decide) ?_
      refine v_iload_n (pc := 87) (i := 2) F dX10_again_87 rfl rfl ?_
      refine v_iadd (pc := 88) F dX10_again_88 ?_
      refine v_topE (nI_add _ _) ?_
      refine v_ialdN (pc := 89) (k0 := 44 + k) F dX10_again_89 ((lm10_23 lm0)) (rfl) (by omega) (by decide) ?_
      refine v_iastN (pc := 90) (k0 := k) F dX10_again_90 (lm10_6 lm0) (rfl) (by omega) (by decide) ?_
      refine v_aload_n (pc := 91) (i := 0) F dX10_again_91 rfl rfl ?_
      refine v_getR (pc := 92) (o := 7) F fX10_28 dX10_again_92 rfl lm0 ?_
      refine v_topR (y := 7) rfl ?_
      refine v_iload_n (pc := 95) (i := 2) F dX10_again_95 rfl rfl ?_
      refine v_aload_n (pc := 96) (i := 1) F dX10_again_96 rfl rfl ?_
      refine v_bipush (pc := 97) (v := nI 52) F dX10_again_97 (by decide) ?_
      refine v_iload_n (pc := 99) (i := 2) F dX10_again_99 rfl rfl ?_
      refine v_iadd (pc := 100) F dX10_again_100 ?_
      refine v_topE (nI_add _ _) ?_
      refine v_ialdN (pc := 101) (k0 := 52 + k) F dX10_again_101 ((lm10_23 lm0)) (rfl) (by omega) (by decide) ?_
      refine v_iastN (pc := 102) (k0 := k) F dX10_again_102 (lm10_7 lm0) (rfl) (by omega) (by decide) ?_
      refine v_iinc (pc := 103) (i := 2) (v := nI (k + 1)) (lo' := [some (.ref _), some (.ref _), some (.int _)]) F dX10_again_103 rfl (j_inc _) rfl rfl ?_
      refine v_goto (pc := 106) (tgt := 25) F dX10_again_106 (by decide) ?_
      subst hI
      refine ih (by omega) _ ?_
      rw [AN_pI]
      rw [AN_pI]
      rw [AN_pI]
      rw [AN_pI]
      rw [AN_pI]
      rw [AN_pI]
      · exact AN_congr (fun c j => by refine Bool.eq_iff_iff.mpr ?_; simp only [Bool.or_eq_true, decide_eq_true_eq, kAll, aAll]; omega)
      · rw [AN_w (by simp)]
        rfl
      · rw [AN_w (by simp)]
        rfl
      · rw [AN_w (by simp)]
        rfl
      · rw [AN_w (by simp)]
        rfl
      · rw [AN_w (by simp)]
        rfl
      · rw [AN_w (by simp)]
        rfl
  · rw [nI_leI (by omega) (by omega)] at h5_1
    refine v_aload_n (pc := 8) (i := 0) F dX10_again_8 rfl rfl ?_
    refine v_getR (pc := 9) (o := 1) F fX10_9 dX10_again_9 rfl lm0 ?_
    refine v_topR (y := 1) rfl ?_
    refine v_iload_n (pc := 12) (i := 2) F dX10_again_12 rfl rfl ?_
    refine v_aload_n (pc := 13) (i := 1) F dX10_again_13 rfl rfl ?_
    refine v_iload_n (pc := 14) (i := 2) F dX10_again_14 rfl rfl ?_
    refine v_ialdN (pc := 15) (k0 := k) F dX10_again_15 ((lm10_23 lm0)) (rfl) (by omega) (by decide) ?_
    refine v_iastN (pc := 16) (k0 := k) F dX10_again_16 (lm10_0 lm0) (rfl) (by omega) (by decide) ?_
    refine v_iinc (pc := 17) (i := 2) (v := nI (k + 1)) (lo' := [some (.ref _), some (.ref _), some (.int _)]) F dX10_again_17 rfl (j_inc _) rfl rfl ?_
    refine v_goto (pc := 20) (tgt := 2) F dX10_again_20 (by decide) ?_
    subst hI
    refine ih (by omega) _ ?_
    rw [AN_pI]
    · exact AN_congr (fun c j => by refine Bool.eq_iff_iff.mpr ?_; simp only [Bool.or_eq_true, decide_eq_true_eq, kAll, aAll]; omega)
    · rw [AN_w (by simp)]
      rfl

/-- the letters from f to e spell the j-th word -/
def wdB (t : Nat → Int32) (f e j : Nat) : Bool := decide (e - f = j_len.getD j 0) && (List.range (j_len.getD j 0)).all (fun i => t (f + i) == (j_byt.getD j []).getD i 0)
def isW (t : Nat → Int32) (f e : Nat) (kd : Int32) (j : Nat) : Bool := kd == nI 119 && wdB t f e j
theorem isW_iff {t : Nat → Int32} {f e j : Nat} {kd : Int32} : isW t f e kd j = true ↔ kd = nI 119 ∧ e - f = j_len.getD j 0 ∧ ∀ i, i < j_len.getD j 0 → t (f + i) = (j_byt.getD j []).getD i 0 := by
  simp [isW, wdB, List.all_eq_true]
theorem b2i_n {p : Prop} [Decidable p] (h : ¬ p) : (0 : Int32) = b2i p := (b2i_f h).symm
theorem b2i_y {p : Prop} [Decidable p] (h : p) : (1 : Int32) = b2i p := (b2i_t h).symm
/-- a number less than M comes -/
def nbr (t : Nat → Int32) (n a M : Nat) : Option Nat := if tkK t n a = nI 48 ∧ inQ M (tkV t n a) = true then some (ix (tkV t n a)) else none
theorem nbr_y {t : Nat → Int32} {n a M : Nat} (hM : M < 2 ^ 31) (h1 : tkK t n a = nI 48) (h2 : inQ M (tkV t n a) = true) : tkV t n a = o2i (nbr t n a M) := by
  obtain ⟨k, h3, h4⟩ := inR_of hM h2
  unfold nbr
  rw [if_pos ⟨h1, h2⟩, h4, ix_nI (by omega)]
  rfl
theorem nbr_n {t : Nat → Int32} {n a M : Nat} (h : ¬ (tkK t n a = nI 48 ∧ inQ M (tkV t n a) = true)) : (-1 : Int32) = o2i (nbr t n a M) := by
  unfold nbr
  rw [if_neg h]
  rfl
theorem nbr_lt {t : Nat → Int32} {n a M x : Nat} (hM : M < 2 ^ 31) (h : nbr t n a M = some x) : x < M := by
  unfold nbr at h
  split at h
  · rename_i q
    obtain ⟨k, h3, h4⟩ := inR_of hM q.2
    rw [h4, ix_nI (by omega)] at h
    cases h
    exact h3
  · cases h

set_option maxRecDepth 100000 in
theorem c_X10_isWord (j : Nat) (hj : j < 6) (f e : Nat) (μ : j_M) (hf : μ.1 0 13 = nI f) (he : μ.1 0 14 = nI e) (hfe : f ≤ e) (he2 : e ≤ 250) : Ct yX10_isWord cX10_isWord 3 (some .boolean) 4 ΛM [.ref 0, .ref (1000 + j)] μ (pI fun r μ2 => r = (b2i (isW (μ.1 9) f e (μ.1 0 15) j = true)) ∧ μ2 = μ) := by
  refine Ct.go (lo := [some (.ref 0), some (.ref (1000 + j)), none]) (by decide) (Nat.le_of_ble_eq_true rfl) rfl rfl (fun X F => ?_)
  have F : Fx X cX10_isWord RX10 4 (some .boolean) ΛM := F
  have hl6 := j_lenb hj
  refine v_aload_n (pc := 0) (i := 0) F dX10_isWord_0 rfl rfl ?_
  refine v_getI (pc := 1) F fX10_140 dX10_isWord_1 rfl lm0 ?_
  refine v_bipush (pc := 4) (v := nI 119) F dX10_isWord_4 (by decide) ?_
  refine v_icmp_ne (pc := 6) (tgt := 25) F dX10_isWord_6 (by decide) (fun hkd => ?_) (fun hkd => ?_)
  · skip
    refine v_iconst (pc := 25) (v := nI 0) F dX10_isWord_25 (by decide) ?_
    refine v_ireturn (pc := 26) F dX10_isWord_26 (rfl) ?_
    refine ⟨b2i_n (fun z => ?_), rfl⟩
    have z2 := isW_iff.mp z
    first | exact hkd z2.1 | exact hl z2.2.1
  · skip
    refine v_aload_n (pc := 9) (i := 0) F dX10_isWord_9 rfl rfl ?_
    refine v_getI (pc := 10) F fX10_134 dX10_isWord_10 rfl lm0 ?_
    refine v_topE (he) ?_
    refine v_aload_n (pc := 13) (i := 0) F dX10_isWord_13 rfl rfl ?_
    refine v_getI (pc := 14) F fX10_137 dX10_isWord_14 rfl lm0 ?_
    refine v_topE (hf) ?_
    refine v_isub (pc := 17) F dX10_isWord_17 ?_
    refine v_topE (pk_sub (by omega)) ?_
    refine v_aload_n (pc := 18) (i := 1) F dX10_isWord_18 rfl rfl ?_
    refine v_callTI (pc := 19) (As := []) (rest := [_]) (b := j) F mJ0_length_8abf5 kX10_152 im_J0_length_8abf5 se_J0_length_8abf5 dX10_isWord_19 rfl hj (c_J0_length _ j hj _) (by decide) rfl rfl (Nat.le_of_ble_eq_true rfl) (fun x2 μ2 hp2 => ?_)
    rw [hp2.1, hp2.2]
    refine v_icmp_eq (pc := 22) (tgt := 27) F dX10_isWord_22 (by decide) (fun hl => ?_) (fun hl => ?_)
    · rw [nI_eq (by omega) (by omega)] at hl
      refine v_iconst (pc := 27) (v := nI 0) F dX10_isWord_27 (by decide) ?_
      refine v_istore_n (pc := 28) (lo' := [some (.ref _), some (.ref _), some (.int _)]) F dX10_isWord_28 rfl rfl (Nat.le_of_ble_eq_true rfl) rfl ?_
      refine j_up ((j_len.getD j 0)) (fun k => (∀ i, i < k → μ.1 9 (f + i) = (j_byt.getD j []).getD i 0) → V X _ 29 [some (.ref 0), some (.ref (1000 + j)), some (.int (nI k))] [] μ) (fun k hk ih hI => ?_) 0 (Nat.zero_le _) (fun i hi => absurd hi (Nat.not_lt_zero _))
      refine v_iload_n (pc := 29) (i := 2) F dX10_isWord_29 rfl rfl ?_
      refine v_aload_n (pc := 30) (i := 1) F dX10_isWord_30 rfl rfl ?_
      refine v_callTI (pc := 31) (As := []) (rest := [_]) (b := j) F mJ0_length_8abf5 kX10_152 im_J0_length_8abf5 se_J0_length_8abf5 dX10_isWord_31 rfl hj (c_J0_length _ j hj _) (by decide) rfl rfl (Nat.le_of_ble_eq_true rfl) (fun x4 μ4 hp4 => ?_)
      rw [hp4.1, hp4.2]
      refine v_icmp_ge (pc := 34) (tgt := 64) F dX10_isWord_34 (by decide) (fun h34_5 => ?_) (fun h34_5 => ?_)
      · rw [nI_leI (by omega) (by omega)] at h34_5
        refine v_iconst (pc := 64) (v := nI 1) F dX10_isWord_64 (by decide) ?_
        refine v_ireturn (pc := 65) F dX10_isWord_65 (rfl) ?_
        exact ⟨b2i_y (isW_iff.mpr ⟨hkd, hl, fun i hi => hI i (by omega)⟩), rfl⟩
      · rw [nI_leI (by omega) (by omega)] at h34_5
        refine v_aload_n (pc := 37) (i := 0) F dX10_isWord_37 rfl rfl ?_
        refine v_getR (pc := 38) (o := 9) F fX10_34 dX10_isWord_38 rfl lm0 ?_
        refine v_topR (y := 9) rfl ?_
        refine v_aload_n (pc := 41) (i := 0) F dX10_isWord_41 rfl rfl ?_
        refine v_getI (pc := 42) F fX10_137 dX10_isWord_42 rfl lm0 ?_
        refine v_topE (hf) ?_
        refine v_iload_n (pc := 45) (i := 2) F dX10_isWord_45 rfl rfl ?_
        refine v_iadd (pc := 46) F dX10_isWord_46 ?_
        refine v_topE (nI_add _ _) ?_
        refine v_ialdN (pc := 47) (k0 := f + k) F dX10_isWord_47 (lm10_12 lm0) (rfl) (by omega) (by decide) ?_
        refine v_aload_n (pc := 48) (i := 1) F dX10_isWord_48 rfl rfl ?_
        refine v_iload_n (pc := 49) (i := 2) F dX10_isWord_49 rfl rfl ?_
        refine v_callTI (pc := 50) (As := [_]) (rest := [_]) (b := j) F mJ0_charAt_5068e kX10_158 im_J0_charAt_5068e se_J0_charAt_5068e dX10_isWord_50 rfl hj (c_J0_charAt _ j k hj (by omega) _) (by decide) rfl rfl (Nat.le_of_ble_eq_true rfl) (fun x6 μ6 hp6 => ?_)
        rw [hp6.1, hp6.2]
        refine v_icmp_eq (pc := 53) (tgt := 58) F dX10_isWord_53 (by decide) (fun hc => ?_) (fun hc => ?_)
        · skip
          refine v_iinc (pc := 58) (i := 2) (v := nI (k + 1)) (lo' := [some (.ref _), some (.ref _), some (.int _)]) F dX10_isWord_58 rfl (j_inc _) rfl rfl ?_
          refine v_goto (pc := 61) (tgt := 29) F dX10_isWord_61 (by decide) ?_
          exact ih (by omega) (fun i hi => by rcases Nat.lt_succ_iff_lt_or_eq.mp hi with q | q; exact hI i q; rw [q]; exact hc)
        · skip
          refine v_iconst (pc := 56) (v := nI 0) F dX10_isWord_56 (by decide) ?_
          refine v_ireturn (pc := 57) F dX10_isWord_57 (rfl) ?_
          refine ⟨b2i_n (fun z => ?_), rfl⟩
          exact hc ((isW_iff.mp z).2.2 k (by omega))
    · rw [nI_eq (by omega) (by omega)] at hl
      refine v_iconst (pc := 25) (v := nI 0) F dX10_isWord_25 (by decide) ?_
      refine v_ireturn (pc := 26) F dX10_isWord_26 (rfl) ?_
      refine ⟨b2i_n (fun z => ?_), rfl⟩
      have z2 := isW_iff.mp z
      first | exact hkd z2.1 | exact hl z2.2.1

set_option maxRecDepth 100000 in
theorem c_X10_number (hi : Int32) (M : Nat) (hM : ∀ v, (nI 0 ≤ v ∧ v ≤ hi) = (inQ M v = true)) (hM31 : M < 2 ^ 31) (tp : Nat → Int32) (t a : Nat) (μ : j_M) (h9 : μ.1 9 = tp) (ht : μ.1 0 11 = nI t) (ht2 : t ≤ 250) (ha : μ.1 0 14 = nI a) (hat : a ≤ t) : Ct yX10_number cX10_number 3 (some .int) 3 ΛM [.ref 0, .int (nI 0), .int hi] μ (pI fun r μ2 => r = o2i (nbr tp t a M) ∧ Fm PT μ μ2 ∧ μ2.1 0 13 = nI (tkF tp t a) ∧ μ2.1 0 14 = nI (tkT tp t a)) := by
  refine Ct.go (lo := [some (.ref 0), some (.int (nI 0)), some (.int hi)]) (by decide) (Nat.le_of_ble_eq_true rfl) rfl rfl (fun X F => ?_)
  have F : Fx X cX10_number RX10 3 (some .int) ΛM := F
  refine v_aload_n (pc := 0) (i := 0) F dX10_number_0 rfl rfl ?_
  refine v_callVV (pc := 1) (As := []) (rest := []) (c := 10) F mX10_next kX10_162 im_X10_next se_X10_next dX10_number_1 rfl rfl (by decide) (c_X10_next t a _ ht ht2 ha hat) (by decide) rfl rfl (Nat.le_of_ble_eq_true rfl) lm0 (fun μ1 hp1 => ?_)
  obtain ⟨hn1, hn2, hn3, hn4, hn5⟩ := hp1
  rw [h9] at hn2 hn3 hn4 hn5
  have hn6 := hn5
  refine v_aload_n (pc := 4) (i := 0) F dX10_number_4 rfl rfl ?_
  refine v_getI (pc := 5) F fX10_140 dX10_number_5 rfl lm0 ?_
  refine v_bipush (pc := 8) (v := nI 48) F dX10_number_8 (by decide) ?_
  refine v_icmp_ne (pc := 10) (tgt := 32) F dX10_number_10 (by decide) (fun hk => ?_) (fun hk => ?_)
  · rw [hn4] at hk
    refine v_iconst (pc := 32) (v := (-1)) F dX10_number_32 (by decide) ?_
    refine v_ireturn (pc := 33) F dX10_number_33 (rfl) ?_
    refine ⟨?_, hn1, hn2, hn3⟩
    exact nbr_n (fun z => hk z.1)
  · rw [hn4] at hk
    rw [hn4] at hn5
    have hv := hn5 hk
    refine v_aload_n (pc := 13) (i := 0) F dX10_number_13 rfl rfl ?_
    refine v_getI (pc := 14) F fX10_149 dX10_number_14 rfl lm0 ?_
    refine v_iload_n (pc := 17) (i := 1) F dX10_number_17 rfl rfl ?_
    refine v_iload_n (pc := 18) (i := 2) F dX10_number_18 rfl rfl ?_
    refine v_callSI (pc := 19) (As := [_, _, _]) (rest := []) F mX10_within kX10_85 sm_X10_within dX10_number_19 (c_X10_within _ _ _ _) (by decide) rfl rfl (Nat.le_of_ble_eq_true rfl) (fun x3 μ3 hp3 => ?_)
    rw [hp3.1, hp3.2, b2i_congr (hM _)]
    refine v_if_eq (pc := 22) (tgt := 32) F dX10_number_22 (by decide) (fun hw => ?_) (fun hw => ?_)
    · rw [b2i_0] at hw
      refine v_iconst (pc := 32) (v := (-1)) F dX10_number_32 (by decide) ?_
      refine v_ireturn (pc := 33) F dX10_number_33 (rfl) ?_
      refine ⟨?_, hn1, hn2, hn3⟩
      exact nbr_n (fun z => hw (by rw [hv]; exact z.2))
    · rw [b2i_0] at hw
      rw [Classical.not_not] at hw
      refine v_aload_n (pc := 25) (i := 0) F dX10_number_25 rfl rfl ?_
      refine v_getI (pc := 26) F fX10_149 dX10_number_26 rfl lm0 ?_
      refine v_goto (pc := 29) (tgt := 33) F dX10_number_29 (by decide) ?_
      refine v_ireturn (pc := 33) F dX10_number_33 (rfl) ?_
      refine ⟨?_, hn1, hn2, hn3⟩
      rw [hv] at hw ⊢
      exact nbr_y hM31 hk hw
