/-! the reference's image, back, status -/
def ktV (w : Nat → Nat → Int32) (j : Nat) : Int32 := if j < 12 then w 1 j else if j < 60 then w (2 + (j - 12) / 8) ((j - 12) % 8) else if j < 124 then w 8 (j - 60) else if j = 124 then w 0 1 else if j = 125 then w 0 9 else w 0 10
def KM (μ : j_M) (P : Nat → Bool) : j_M := (fun c j => if c = 14 ∧ P j = true then ktV μ.1 j else μ.1 c j, μ.2)
theorem KM_w {μ : j_M} {P : Nat → Bool} {c j : Nat} (h : ¬ c = 14) : (KM μ P).1 c j = μ.1 c j := if_neg (fun z => h z.1)
theorem KM_pI {μ : j_M} {P : Nat → Bool} {i : Nat} {v : Int32} (h : v = ktV μ.1 i) : j_pI (KM μ P) 14 i v = KM μ (fun j => P j || decide (j = i)) := by
  refine Prod.ext ?_ rfl
  funext c j
  by_cases e : c = 14 ∧ j = i
  · obtain ⟨e1, e2⟩ := e
    subst e1 e2
    rw [j_pI_at, h]
    exact (if_pos ⟨rfl, by simp⟩).symm
  · rw [j_pI_off (by omega)]
    show (if c = 14 ∧ P j = true then _ else _) = if c = 14 ∧ (P j || decide (j = i)) = true then _ else _
    by_cases hc : c = 14
    · rw [show decide (j = i) = false from decide_eq_false (fun z => e ⟨hc, z⟩), Bool.or_false]
    · rw [if_neg (fun z => hc z.1), if_neg (fun z => hc z.1)]
theorem KM_congr {μ : j_M} {P Q : Nat → Bool} (h : ∀ j, P j = Q j) : KM μ P = KM μ Q := by rw [funext h]
theorem KM_0 {μ : j_M} {P : Nat → Bool} (h : ∀ j, P j = false) : KM μ P = μ := by
  refine Prod.ext ?_ rfl
  funext c j
  exact if_neg (fun z => by rw [h j] at z; exact absurd z.2 (by decide))
theorem kt_l {w : Nat → Nat → Int32} {d k : Nat} (hd : d < 6) (hk : k < 8) : w (2 + d) k = ktV w (12 + 8 * d + k) := by
  unfold ktV
  rw [if_neg (by omega), if_pos (by omega), show 2 + (12 + 8 * d + k - 12) / 8 = 2 + d by omega, show (12 + 8 * d + k - 12) % 8 = k by omega]
def AM (μ : j_M) (P : Nat → Nat → Bool) : j_M := (fun c j => if P c j = true then wold μ.1 c j else μ.1 c j, μ.2)
theorem AM_w {μ : j_M} {P : Nat → Nat → Bool} {c j : Nat} (h : ¬ P c j = true) : (AM μ P).1 c j = μ.1 c j := if_neg h
theorem AM_y {μ : j_M} {P : Nat → Nat → Bool} {c j : Nat} (h : P c j = true) : (AM μ P).1 c j = wold μ.1 c j := if_pos h
theorem AM_pI {μ : j_M} {P : Nat → Nat → Bool} {c i : Nat} {v : Int32} (h : v = wold μ.1 c i) : j_pI (AM μ P) c i v = AM μ (fun x y => P x y || decide (x = c ∧ y = i)) := by
  refine Prod.ext ?_ rfl
  funext x y
  by_cases e : x = c ∧ y = i
  · obtain ⟨e1, e2⟩ := e
    subst e1 e2
    rw [j_pI_at, h]
    exact (if_pos (by simp)).symm
  · rw [j_pI_off (by omega)]
    show (if P x y = true then _ else _) = if (P x y || decide (x = c ∧ y = i)) = true then _ else _
    rw [show decide (x = c ∧ y = i) = false from decide_eq_false e, Bool.or_false]
theorem AM_congr {μ : j_M} {P Q : Nat → Nat → Bool} (h : ∀ c j, P c j = Q c j) : AM μ P = AM μ Q := by rw [funext (fun c => funext (h c))]
theorem AM_0 {μ : j_M} {P : Nat → Nat → Bool} (h : ∀ c j, P c j = false) : AM μ P = μ := by
  refine Prod.ext ?_ rfl
  funext c j
  exact if_neg (by rw [h c j]; decide)
def kAll (j : Nat) : Bool := decide (j < 127)
def aAll (c j : Nat) : Bool := decide ((c = 1 ∧ j < 12) ∨ (2 ≤ c ∧ c ≤ 7 ∧ j < 8) ∨ (c = 8 ∧ j < 64) ∨ (c = 0 ∧ (j = 1 ∨ j = 9 ∨ j = 10)))
def bkM (μ : j_M) (b : Int32) (k : Nat) : j_M := (fun c j => if c = 10 ∧ j < k ∧ ¬ μ.1 10 j < b then -1 else μ.1 c j, μ.2)
def s_image (μ : j_M) : Int32 × j_M := (1, KM (j_pI μ 0 21 1) kAll)
def s_back (μ : j_M) : Int32 × j_M := if μ.1 0 21 = 0 then rj (-5) 5 μ else (1, bkM (AM μ aAll) (nI 10 + (AM μ aAll).1 0 1) 8)
def hasS (w : Nat → Int32) : Nat → Int32
  | 0 => 0
  | k + 1 => hasS w k + w k
def s_status (what : Int32) (μ : j_M) : Int32 × j_M := if what = 0 then (nI (nn μ), μ) else if what = 1 then (nI (cP (fun p => !(μ.1 1 p == -1))), μ) else if what = 2 then (hasS (μ.1 8) (8 * nn μ), μ) else if what = 3 then (μ.1 0 9, μ) else if what = 4 then (nI (cK (fun l => !(μ.1 7 l == -1)) (nn μ)), μ) else if what = 5 then (μ.1 0 11, μ) else if what = 6 then (μ.1 0 10, μ) else if what = 7 then (nI (cK (fun s => !(μ.1 10 s == -1)) 8), μ) else if inB 12 16 what = true then (μ.1 13 (ix what - 10), μ) else (-1, μ)
theorem st_out {x : Int32} (h0 : ¬ x = 0) (h1 : ¬ x = 1) (h2 : ¬ x = 2) (h3 : ¬ x = 3) (h4 : ¬ x = 4) (h5 : ¬ x = 5) (h6 : ¬ x = 6) (h7 : ¬ x = 7) : x.toInt < 0 ∨ 7 < x.toInt := by
  have e : x = Int32.ofInt x.toInt := (Int32.ofInt_toInt x).symm
  by_cases hc : x.toInt < 0 ∨ 7 < x.toInt
  · exact hc
  · exfalso
    obtain q | q | q | q | q | q | q | q : x.toInt = 0 ∨ x.toInt = 1 ∨ x.toInt = 2 ∨ x.toInt = 3 ∨ x.toInt = 4 ∨ x.toInt = 5 ∨ x.toInt = 6 ∨ x.toInt = 7 := by omega
    · exact h0 (by rw [e, q]; rfl)
    · exact h1 (by rw [e, q]; rfl)
    · exact h2 (by rw [e, q]; rfl)
    · exact h3 (by rw [e, q]; rfl)
    · exact h4 (by rw [e, q]; rfl)
    · exact h5 (by rw [e, q]; rfl)
    · exact h6 (by rw [e, q]; rfl)
    · exact h7 (by rw [e, q]; rfl)

set_option maxRecDepth 100000 in
theorem c_X10_keep (μ : j_M) : Ct yX10_keep cX10_keep 3 none 0 ΛM [.ref 0, .ref 14] μ (pV fun μ2 => μ2 = KM μ kAll) := by
  refine Ct.go (lo := [some (.ref 0), some (.ref 14), none]) (by decide) (Nat.le_of_ble_eq_true rfl) rfl rfl (fun X F => ?_)
  have F : Fx X cX10_keep RX10 0 none ΛM := F
  refine v_iconst (pc := 0) (v := nI 0) F dX10_keep_0 (by decide) ?_
  refine v_istore_n (pc := 1) (lo' := [some (.ref _), some (.ref _), some (.int _)]) F dX10_keep_1 rfl rfl (Nat.le_of_ble_eq_true rfl) rfl ?_
  refine j_up 12 (fun k => ∀ μ' : j_M, (μ' = KM μ (fun j => decide (j < k))) → V X _ 2 [some (.ref 0), some (.ref 14), some (.int (nI k))] [] μ') (fun k hk ih μ' hI => ?_) 0 (Nat.zero_le _) μ (KM_0 (fun j => decide_eq_false (by omega))).symm
  refine v_iload_n (pc := 2) (i := 2) F dX10_keep_2 rfl rfl ?_
  refine v_bipush (pc := 3) (v := nI 12) F dX10_keep_3 (by decide) ?_
  refine v_icmp_ge (pc := 5) (tgt := 23) F dX10_keep_5 (by decide) (fun h5_1 => ?_) (fun h5_1 => ?_)
  · rw [nI_leI (by omega) (by omega)] at h5_1
    refine v_iconst (pc := 23) (v := nI 0) F dX10_keep_23 (by decide) ?_
    refine v_istore_n (pc := 24) (lo' := [some (.ref _), some (.ref _), some (.int _)]) F dX10_keep_24 rfl rfl (Nat.le_of_ble_eq_true rfl) rfl ?_
    refine j_up 8 (fun k => ∀ μ' : j_M, (μ' = KM μ (fun j => decide (j < 12 ∨ (12 ≤ j ∧ j < 60 ∧ (j - 12) % 8 < k)))) → V X _ 25 [some (.ref 0), some (.ref 14), some (.int (nI k))] [] μ') (fun k hk ih μ' hI => ?_) 0 (Nat.zero_le _) μ' (by rw [hI]; exact KM_congr (fun j => by refine Bool.eq_iff_iff.mpr ?_; simp only [Bool.or_eq_true, decide_eq_true_eq, kAll, aAll]; omega))
    refine v_iload_n (pc := 25) (i := 2) F dX10_keep_25 rfl rfl ?_
    refine v_bipush (pc := 26) (v := nI 8) F dX10_keep_26 (by decide) ?_
    refine v_icmp_ge (pc := 28) (tgt := 109) F dX10_keep_28 (by decide) (fun h28_2 => ?_) (fun h28_2 => ?_)
    · rw [nI_leI (by omega) (by omega)] at h28_2
      refine v_iconst (pc := 109) (v := nI 0) F dX10_keep_109 (by decide) ?_
      refine v_istore_n (pc := 110) (lo' := [some (.ref _), some (.ref _), some (.int _)]) F dX10_keep_110 rfl rfl (Nat.le_of_ble_eq_true rfl) rfl ?_
      refine j_up 64 (fun k => ∀ μ' : j_M, (μ' = KM μ (fun j => decide (j < 60 + k))) → V X _ 111 [some (.ref 0), some (.ref 14), some (.int (nI k))] [] μ') (fun k hk ih μ' hI => ?_) 0 (Nat.zero_le _) μ' (by rw [hI]; exact KM_congr (fun j => by refine Bool.eq_iff_iff.mpr ?_; simp only [Bool.or_eq_true, decide_eq_true_eq, kAll, aAll]; omega))
      refine v_iload_n (pc := 111) (i := 2) F dX10_keep_111 rfl rfl ?_
      refine v_bipush (pc := 112) (v := nI 64) F dX10_keep_112 (by decide) ?_
      refine v_icmp_ge (pc := 114) (tgt := 135) F dX10_keep_114 (by decide) (fun h114_3 => ?_) (fun h114_3 => ?_)
      · rw [nI_leI (by omega) (by omega)] at h114_3
        refine v_aload_n (pc := 135) (i := 1) F dX10_keep_135 rfl rfl ?_
        refine v_bipush (pc := 136) (v := nI 124) F dX10_keep_136 (by decide) ?_
        refine v_aload_n (pc := 138) (i := 0) F dX10_keep_138 rfl rfl ?_
        refine v_getI (pc := 139) F fX10_89 dX10_keep_139 rfl lm0 ?_
        refine v_iastN (pc := 142) (k0 := 124) F dX10_keep_142 ((lm10_22 lm0)) (rfl) (by omega) (by decide) ?_
        refine v_aload_n (pc := 143) (i := 1) F dX10_keep_143 rfl rfl ?_
        refine v_bipush (pc := 144) (v := nI 125) F dX10_keep_144 (by decide) ?_
        refine v_aload_n (pc := 146) (i := 0) F dX10_keep_146 rfl rfl ?_
        refine v_getI (pc := 147) F fX10_304 dX10_keep_147 rfl lm0 ?_
        refine v_iastN (pc := 150) (k0 := 125) F dX10_keep_150 ((lm10_22 lm0)) (rfl) (by omega) (by decide) ?_
        refine v_aload_n (pc := 151) (i := 1) F dX10_keep_151 rfl rfl ?_
        refine v_bipush (pc := 152) (v := nI 126) F dX10_keep_152 (by decide) ?_
        refine v_aload_n (pc := 154) (i := 0) F dX10_keep_154 rfl rfl ?_
        refine v_getI (pc := 155) F fX10_81 dX10_keep_155 rfl lm0 ?_
        refine v_iastN (pc := 158) (k0 := 126) F dX10_keep_158 ((lm10_22 lm0)) (rfl) (by omega) (by decide) ?_
        refine v_return (pc := 159) F dX10_keep_159 ?_
        have e : k = 64 := by omega
        subst e
        subst hI
        rw [KM_pI]
        rw [KM_pI]
        rw [KM_pI]
        · exact KM_congr (fun j => by refine Bool.eq_iff_iff.mpr ?_; simp only [Bool.or_eq_true, decide_eq_true_eq, kAll, aAll]; omega)
        · rw [KM_w (by decide)]
          rfl
        · rw [KM_w (by decide)]
          rfl
        · rw [KM_w (by decide)]
          rfl
      · rw [nI_leI (by omega) (by omega)] at h114_3
        refine v_aload_n (pc := 117) (i := 1) F dX10_keep_117 rfl rfl ?_
        refine v_bipush (pc := 118) (v := nI 60) F dX10_keep_118 (by decide) ?_
        refine v_iload_n (pc := 120) (i := 2) F dX10_keep_120 rfl rfl ?_
        refine v_iadd (pc := 121) F dX10_keep_121 ?_
        refine v_topE (nI_add _ _) ?_
        refine v_aload_n (pc := 122) (i := 0) F dX10_keep_122 rfl rfl ?_
        refine v_getR (pc := 123) (o := 8) F fX10_31 dX10_keep_123 rfl lm0 ?_
        refine v_topR (y := 8) rfl ?_
        refine v_iload_n (pc := 126) (i := 2) F dX10_keep_126 rfl rfl ?_
        refine v_ialdN (pc := 127) (k0 := k) F dX10_keep_127 (lm10_8 lm0) (rfl) (by omega) (by decide) ?_
        refine v_iastN (pc := 128) (k0 := 60 + k) F dX10_keep_128 ((lm10_22 lm0)) (rfl) (by omega) (by decide) ?_
        refine v_iinc (pc := 129) (i := 2) (v := nI (k + 1)) (lo' := [some (.ref _), some (.ref _), some (.int _)]) F dX10_keep_129 rfl (j_inc _) rfl rfl ?_
        refine v_goto (pc := 132) (tgt := 111) F dX10_keep_132 (by decide) ?_
        subst hI
        refine ih (by omega) _ ?_
        rw [KM_pI]
        · exact KM_congr (fun j => by refine Bool.eq_iff_iff.mpr ?_; simp only [Bool.or_eq_true, decide_eq_true_eq, kAll, aAll]; omega)
        · rw [KM_w (by decide)]
          unfold ktV; rw [if_neg (by omega), if_neg (by omega), if_pos (by omega), show 60 + k - 60 = k by omega]
    · rw [nI_leI (by omega) (by omega)] at h28_2
      refine v_aload_n (pc := 31) (i := 1) F dX10_keep_31 rfl rfl ?_
      refine v_bipush (pc := 32) (v := nI 12) F dX10_keep_32 (by decide) ?_
      refine v_iload_n (pc := 34) (i := 2) F dX10_keep_34 rfl rfl ?_
      refine v_iadd (pc := 35) F dX10_keep_35 ?_
      refine v_topE (nI_add _ _) ?_
      refine v_aload_n (pc := 36) (i := 0) F dX10_keep_36 rfl rfl ?_
      refine v_getR (pc := 37) (o := 2) F fX10_13 dX10_keep_37 rfl lm0 ?_
      refine v_topR (y := 2) rfl ?_
      refine v_iload_n (pc := 40) (i := 2) F dX10_keep_40 rfl rfl ?_
      refine v_ialdN (pc := 41) (k0 := k) F dX10_keep_41 (lm10_2 lm0) (rfl) (by omega) (by decide) ?_
      refine v_iastN (pc := 42) (k0 := 12 + k) F dX10_keep_42 ((lm10_22 lm0)) (rfl) (by omega) (by decide) ?_
      refine v_aload_n (pc := 43) (i := 1) F dX10_keep_43 rfl rfl ?_
      refine v_bipush (pc := 44) (v := nI 20) F dX10_keep_44 (by decide) ?_
      refine v_iload_n (pc := 46) (i := 2) F dX10_keep_46 rfl rfl ?_
      refine v_iadd (pc := 47) F dX10_keep_47 ?_
      refine v_topE (nI_add _ _) ?_
      refine v_aload_n (pc := 48) (i := 0) F dX10_keep_48 rfl rfl ?_
      refine v_getR (pc := 49) (o := 3) F fX10_16 dX10_keep_49 rfl lm0 ?_
      refine v_topR (y := 3) rfl ?_
      refine v_iload_n (pc := 52) (i := 2) F dX10_keep_52 rfl rfl ?_
      refine v_ialdN (pc := 53) (k0 := k) F dX10_keep_53 (lm10_3 lm0) (rfl) (by omega) (by decide) ?_
      refine v_iastN (pc := 54) (k0 := 20 + k) F dX10_keep_54 ((lm10_22 lm0)) (rfl) (by omega) (by decide) ?_
      refine v_aload_n (pc := 55) (i := 1) F dX10_keep_55 rfl rfl ?_
      refine v_bipush (pc := 56) (v := nI 28) F dX10_keep_56 (by decide) ?_
      refine v_iload_n (pc := 58) (i := 2) F dX10_keep_58 rfl rfl ?_
      refine v_iadd (pc := 59) F dX10_keep_59 ?_
      refine v_topE (nI_add _ _) ?_
      refine v_aload_n (pc := 60) (i := 0) F dX10_keep_60 rfl rfl ?_
      refine v_getR (pc := 61) (o := 4) F fX10_19 dX10_keep_61 rfl lm0 ?_
      refine v_topR (y := 4) rfl ?_
      refine v_iload_n (pc := 64) (i := 2) F dX10_keep_64 rfl rfl ?_
      refine v_ialdN (pc := 65) (k0 := k) F dX10_keep_65 (lm10_4 lm0) (rfl) (by omega) (by decide) ?_
      refine v_iastN (pc := 66) (k0 := 28 + k) F dX10_keep_66 ((lm10_22 lm0)) (rfl) (by omega) (by decide) ?_
      refine v_aload_n (pc := 67) (i := 1) F dX10_keep_67 rfl rfl ?_
      refine v_bipush (pc := 68) (v := nI 36) F dX10_keep_68 (by decide) ?_
      refine v_iload_n (pc := 70) (i := 2) F dX10_keep_70 rfl rfl ?_
      refine v_iadd (pc := 71) F dX10_keep_71 ?_
      refine v_topE (nI_add _ _) ?_
      refine v_aload_n (pc := 72) (i := 0) F dX10_keep_72 rfl rfl ?_
      refine v_getR (pc := 73) (o := 5) F fX10_22 dX10_keep_73 rfl lm0 ?_
      refine v_topR (y := 5) rfl ?_
      refine v_iload_n (pc := 76) (i := 2) F dX10_keep_76 rfl rfl ?_
      refine v_ialdN (pc := 77) (k0 := k) F dX10_keep_77 (lm10_5 lm0) (rfl) (by omega) (by decide) ?_
      refine v_iastN (pc := 78) (k0 := 36 + k) F dX10_keep_78 ((lm10_22 lm0)) (rfl) (by omega) (by decide) ?_
      refine v_aload_n (pc := 79) (i := 1) F dX10_keep_79 rfl rfl ?_
      refine v_bipush (pc := 80) (v := nI 44) F dX10_keep_80 (by decide) ?_
      refine v_iload_n (pc := 82) (i := 2) F dX10_keep_82 rfl rfl ?_
      refine v_iadd (pc := 83) F dX10_keep_83 ?_
      refine v_topE (nI_add _ _) ?_
      refine v_aload_n (pc := 84) (i := 0) F dX10_keep_84 rfl rfl ?_
      refine v_getR (pc := 85) (o := 6) F fX10_25 dX10_keep_85 rfl lm0 ?_
      refine v_topR (y := 6) rfl ?_
      refine v_iload_n (pc := 88) (i := 2) F dX10_keep_88 rfl rfl ?_
      refine v_ialdN (pc := 89) (k0 := k) F dX10_keep_89 (lm10_6 lm0) (rfl) (by omega) (by decide) ?_
      refine v_iastN (pc := 90) (k0 := 44 + k) F dX10_keep_90 ((lm10_22 lm0)) (rfl) (by omega) (by decide) ?_
      refine v_aload_n (pc := 91) (i := 1) F dX10_keep_91 rfl rfl ?_
      refine v_bipush (pc := 92) (v := nI 52) F dX10_keep_92 (by decide) ?_
      refine v_iload_n (pc := 94) (i := 2) F dX10_keep_94 rfl rfl ?_
      refine v_iadd (pc := 95) F dX10_keep_95 ?_
      refine v_topE (nI_add _ _) ?_
      refine v_aload_n (pc := 96) (i := 0) F dX10_keep_96 rfl rfl ?_
      refine v_getR (pc := 97) (o := 7) F fX10_28 dX10_keep_97 rfl lm0 ?_
      refine v_topR (y := 7) rfl ?_
      refine v_iload_n (pc := 100) (i := 2) F dX10_keep_100 rfl rfl ?_
      refine v_ialdN (pc := 101) (k0 := k) F dX10_keep_101 (lm10_7 lm0) (rfl) (by omega) (by decide) ?_
      refine v_iastN (pc := 102) (k0 := 52 + k) F dX10_keep_102 ((lm10_22 lm0)) (rfl) (by omega) (by decide) ?_
      refine v_iinc (pc := 103) (i := 2) (v := nI (k + 1)) (lo' := [some (.ref _), some (.ref _), some (.int _)]) F dX10_keep_103 rfl (j_inc _) rfl rfl ?_
      refine v_goto (pc := 106) (tgt := 25) F dX10_keep_106 (by decide) ?_
      subst hI
      refine ih (by omega) _ ?_
      rw [KM_pI]
      rw [KM_pI]
      rw [KM_pI]
      rw [KM_pI]
      rw [KM_pI]
      rw [KM_pI]
      · exact KM_congr (fun j => by refine Bool.eq_iff_iff.mpr ?_; simp only [Bool.or_eq_true, decide_eq_true_eq, kAll, aAll]; omega)
      · rw [KM_w (by decide)]
        exact kt_l (d := 5) (k := k) (by omega) (by omega)
      · rw [KM_w (by decide)]
        exact kt_l (d := 4) (k := k) (by omega) (by omega)
      · rw [KM_w (by decide)]
        exact kt_l (d := 3) (k := k) (by omega) (by omega)
      · rw [KM_w (by decide)]
        exact kt_l (d := 2) (k := k) (by omega) (by omega)
      · rw [KM_w (by decide)]
        exact kt_l (d := 1) (k := k) (by omega) (by omega)
      · rw [KM_w (by decide)]
        exact kt_l (d := 0) (k := k) (by omega) (by omega)
  · rw [nI_leI (by omega) (by omega)] at h5_1
    refine v_aload_n (pc := 8) (i := 1) F dX10_keep_8 rfl rfl ?_
    refine v_iload_n (pc := 9) (i := 2) F dX10_keep_9 rfl rfl ?_
    refine v_aload_n (pc := 10) (i := 0) F dX10_keep_10 rfl rfl ?_
    refine v_getR (pc := 11) (o := 1) F fX10_9 dX10_keep_11 rfl lm0 ?_
    refine v_topR (y := 1) rfl ?_
    refine v_iload_n (pc := 14) (i := 2) F dX10_keep_14 rfl rfl ?_
    refine v_ialdN (pc := 15) (k0 := k) F dX10_keep_15 (lm10_0 lm0) (rfl) (by omega) (by decide) ?_
    refine v_iastN (pc := 16) (k0 := k) F dX10_keep_16 ((lm10_22 lm0)) (rfl) (by omega) (by decide) ?_
    refine v_iinc (pc := 17) (i := 2) (v := nI (k + 1)) (lo' := [some (.ref _), some (.ref _), some (.int _)]) F dX10_keep_17 rfl (j_inc _) rfl rfl ?_
    refine v_goto (pc := 20) (tgt := 2) F dX10_keep_20 (by decide) ?_
    subst hI
    refine ih (by omega) _ ?_
    rw [KM_pI]
    · exact KM_congr (fun j => by refine Bool.eq_iff_iff.mpr ?_; simp only [Bool.or_eq_true, decide_eq_true_eq, kAll, aAll]; omega)
    · rw [KM_w (by decide)]
      unfold ktV; rw [if_pos (by omega)]

set_option maxRecDepth 100000 in
theorem c_X10_again (μ : j_M) : Ct yX10_again cX10_again 3 none 0 ΛM [.ref 0, .ref 14] μ (pV fun μ2 => μ2 = AM μ aAll) := by
  refine Ct.go (lo := [some (.ref 0), some (.ref 14), none]) (by decide) (Nat.le_of_ble_eq_true rfl) rfl rfl (fun X F => ?_)
  have F : Fx X cX10_again RX10 0 none ΛM := F
  refine v_iconst (pc := 0) (v := nI 0) F dX10_again_0 (by decide) ?_
  refine v_istore_n (pc := 1) (lo' := [some (.ref _), some (.ref _), some (.int _)]) F dX10_again_1 rfl rfl (Nat.le_of_ble_eq_true rfl) rfl ?_
  refine j_up 12 (fun k => ∀ μ' : j_M, (μ' = AM μ (fun c j => decide (c = 1 ∧ j < k))) → V X _ 2 [some (.ref 0), some (.ref 14), some (.int (nI k))] [] μ') (fun k hk ih μ' hI => ?_) 0 (Nat.zero_le _) μ (AM_0 (fun c j => decide_eq_false (by omega))).symm
  refine v_iload_n (pc := 2) (i := 2) F dX10_again_2 rfl rfl ?_
  refine v_bipush (pc := 3) (v := nI 12) F dX10_again_3 (by decide) ?_
  refine v_icmp_ge (pc := 5) (tgt := 23) F dX10_again_5 (by decide) (fun h5_1 => ?_) (fun h5_1 => ?_)
  · rw [nI_leI (by omega) (by omega)] at h5_1
    refine v_iconst (pc := 23) (v := nI 0) F dX10_again_23 (by decide) ?_
    refine v_istore_n (pc := 24) (lo' := [some (.ref _), some (.ref _), some (.int _)]) F dX10_again_24 rfl rfl (Nat.le_of_ble_eq_true rfl) rfl ?_
    refine j_up 8 (fun k => ∀ μ' : j_M, (μ' = AM μ (fun c j => decide ((c = 1 ∧ j < 12) ∨ (2 ≤ c ∧ c ≤ 7 ∧ j < k)))) → V X _ 25 [some (.ref 0), some (.ref 14), some (.int (nI k))] [] μ') (fun k hk ih μ' hI => ?_) 0 (Nat.zero_le _) μ' (by rw [hI]; exact AM_congr (fun c j => by refine Bool.eq_iff_iff.mpr ?_; simp only [Bool.or_eq_true, decide_eq_true_eq, kAll, aAll]; omega))
    refine v_iload_n (pc := 25) (i := 2) F dX10_again_25 rfl rfl ?_
    refine v_bipush (pc := 26) (v := nI 8) F dX10_again_26 (by decide) ?_
    refine v_icmp_ge (pc := 28) (tgt := 109) F dX10_again_28 (by decide) (fun h28_2 => ?_) (fun h28_2 => ?_)
    · rw [nI_leI (by omega) (by omega)] at h28_2
      refine v_iconst (pc := 109) (v := nI 0) F dX10_again_109 (by decide) ?_
      refine v_istore_n (pc := 110) (lo' := [some (.ref _), some (.ref _), some (.int _)]) F dX10_again_110 rfl rfl (Nat.le_of_ble_eq_true rfl) rfl ?_
      refine j_up 64 (fun k => ∀ μ' : j_M, (μ' = AM μ (fun c j => decide ((c = 1 ∧ j < 12) ∨ (2 ≤ c ∧ c ≤ 7 ∧ j < 8) ∨ (c = 8 ∧ j < k)))) → V X _ 111 [some (.ref 0), some (.ref 14), some (.int (nI k))] [] μ') (fun k hk ih μ' hI => ?_) 0 (Nat.zero_le _) μ' (by rw [hI]; exact AM_congr (fun c j => by refine Bool.eq_iff_iff.mpr ?_; simp only [Bool.or_eq_true, decide_eq_true_eq, kAll, aAll]; omega))
      refine v_iload_n (pc := 111) (i := 2) F dX10_again_111 rfl rfl ?_
      refine v_bipush (pc := 112) (v := nI 64) F dX10_again_112 (by decide) ?_
      refine v_icmp_ge (pc := 114) (tgt := 135) F dX10_again_114 (by decide) (fun h114_3 => ?_) (fun h114_3 => ?_)
      · rw [nI_leI (by omega) (by omega)] at h114_3
        refine v_aload_n (pc := 135) (i := 0) F dX10_again_135 rfl rfl ?_
        refine v_aload_n (pc := 136) (i := 1) F dX10_again_136 rfl rfl ?_
        refine v_bipush (pc := 137) (v := nI 124) F dX10_again_137 (by decide) ?_
        refine v_ialdN (pc := 139) (k0 := 124) F dX10_again_139 ((lm10_22 lm0)) (rfl) (by omega) (by decide) ?_
        refine v_put (pc := 140) F fX10_89 dX10_again_140 rfl rfl rfl lm0 ?_
        refine v_aload_n (pc := 143) (i := 0) F dX10_again_143 rfl rfl ?_
        refine v_aload_n (pc := 144) (i := 1) F dX10_again_144 rfl rfl ?_
        refine v_bipush (pc := 145) (v := nI 125) F dX10_again_145 (by decide) ?_
        refine v_ialdN (pc := 147) (k0 := 125) F dX10_again_147 ((lm10_22 lm0)) (rfl) (by omega) (by decide) ?_
        refine v_put (pc := 148) F fX10_304 dX10_again_148 rfl rfl rfl lm0 ?_
        refine v_aload_n (pc := 151) (i := 0) F dX10_again_151 rfl rfl ?_
        refine v_aload_n (pc := 152) (i := 1) F dX10_again_152 rfl rfl ?_
        refine v_bipush (pc := 153) (v := nI 126) F dX10_again_153 (by decide) ?_
        refine v_ialdN (pc := 155) (k0 := 126) F dX10_again_155 ((lm10_22 lm0)) (rfl) (by omega) (by decide) ?_
        refine v_put (pc := 156) F fX10_81 dX10_again_156 rfl rfl rfl lm0 ?_
        refine v_return (pc := 159) F dX10_again_159 ?_
        have e : k = 64 := by omega
        subst e
        subst hI
        rw [AM_pI]
        rw [AM_pI]
        rw [AM_pI]
        · exact AM_congr (fun c j => by refine Bool.eq_iff_iff.mpr ?_; simp only [Bool.or_eq_true, decide_eq_true_eq, kAll, aAll]; omega)
        · rw [AM_w (by simp)]
          rfl
        · rw [AM_w (by simp)]
          rfl
        · rw [AM_w (by simp)]
          rfl
      · rw [nI_leI (by omega) (by omega)] at h114_3
        refine v_aload_n (pc := 117) (i := 0) F dX10_again_117 rfl rfl ?_
        refine v_getR (pc := 118) (o := 8) F fX10_31 dX10_again_118 rfl lm0 ?_
        refine v_topR (y := 8) rfl ?_
        refine v_iload_n (pc := 121) (i := 2) F dX10_again_121 rfl rfl ?_
        refine v_aload_n (pc := 122) (i := 1) F dX10_again_122 rfl rfl ?_
        refine v_bipush (pc := 123) (v := nI 60) F dX10_again_123 (by decide) ?_
        refine v_iload_n (pc := 125) (i := 2) F dX10_again_125 rfl rfl ?_
        refine v_iadd (pc := 126) F dX10_again_126 ?_
        refine v_topE (nI_add _ _) ?_
        refine v_ialdN (pc := 127) (k0 := 60 + k) F dX10_again_127 ((lm10_22 lm0)) (rfl) (by omega) (by decide) ?_
        refine v_iastN (pc := 128) (k0 := k) F dX10_again_128 (lm10_8 lm0) (rfl) (by omega) (by decide) ?_
        refine v_iinc (pc := 129) (i := 2) (v := nI (k + 1)) (lo' := [some (.ref _), some (.ref _), some (.int _)]) F dX10_again_129 rfl (j_inc _) rfl rfl ?_
        refine v_goto (pc := 132) (tgt := 111) F dX10_again_132 (by decide) ?_
        subst hI
        refine ih (by omega) _ ?_
        rw [AM_pI]
        · exact AM_congr (fun c j => by refine Bool.eq_iff_iff.mpr ?_; simp only [Bool.or_eq_true, decide_eq_true_eq, kAll, aAll]; omega)
        · rw [AM_w (by simp)]
          rfl
    · rw [nI_leI (by omega) (by omega)] at h28_2
      refine v_aload_n (pc := 31) (i := 0) F dX10_again_31 rfl rfl ?_
      refine v_getR (pc := 32) (o := 2) F fX10_13 dX10_again_32 rfl lm0 ?_
      refine v_topR (y := 2) rfl ?_
      refine v_iload_n (pc := 35) (i := 2) F dX10_again_35 rfl rfl ?_
      refine v_aload_n (pc := 36) (i := 1) F dX10_again_36 rfl rfl ?_
      refine v_bipush (pc := 37) (v := nI 12) F dX10_again_37 (by decide) ?_
      refine v_iload_n (pc := 39) (i := 2) F dX10_again_39 rfl rfl ?_
      refine v_iadd (pc := 40) F dX10_again_40 ?_
      refine v_topE (nI_add _ _) ?_
      refine v_ialdN (pc := 41) (k0 := 12 + k) F dX10_again_41 ((lm10_22 lm0)) (rfl) (by omega) (by decide) ?_
      refine v_iastN (pc := 42) (k0 := k) F dX10_again_42 (lm10_2 lm0) (rfl) (by omega) (by decide) ?_
      refine v_aload_n (pc := 43) (i := 0) F dX10_again_43 rfl rfl ?_
      refine v_getR (pc := 44) (o := 3) F fX10_16 dX10_again_44 rfl lm0 ?_
      refine v_topR (y := 3) rfl ?_
      refine v_iload_n (pc := 47) (i := 2) F dX10_again_47 rfl rfl ?_
      refine v_aload_n (pc := 48) (i := 1) F dX10_again_48 rfl rfl ?_
      refine v_bipush (pc := 49) (v := nI 20) F dX10_again_49 (by decide) ?_
      refine v_iload_n (pc := 51) (i := 2) F dX10_again_51 rfl rfl ?_
      refine v_iadd (pc := 52) F dX10_again_52 ?_
      refine v_topE (nI_add _ _) ?_
      refine v_ialdN (pc := 53) (k0 := 20 + k) F dX10_again_53 ((lm10_22 lm0)) (rfl) (by omega) (by decide) ?_
      refine v_iastN (pc := 54) (k0 := k) F dX10_again_54 (lm10_3 lm0) (rfl) (by omega) (by decide) ?_
      refine v_aload_n (pc := 55) (i := 0) F dX10_again_55 rfl rfl ?_
      refine v_getR (pc := 56) (o := 4) F fX10_19 dX10_again_56 rfl lm0 ?_
      refine v_topR (y := 4) rfl ?_
      refine v_iload_n (pc := 59) (i := 2) F dX10_again_59 rfl rfl ?_
      refine v_aload_n (pc := 60) (i := 1) F dX10_again_60 rfl rfl ?_
      refine v_bipush (pc := 61) (v := nI 28) F dX10_again_61 (by decide) ?_
      refine v_iload_n (pc := 63) (i := 2) F dX10_again_63 rfl rfl ?_
      refine v_iadd (pc := 64) F dX10_again_64 ?_
      refine v_topE (nI_add _ _) ?_
      refine v_ialdN (pc := 65) (k0 := 28 + k) F dX10_again_65 ((lm10_22 lm0)) (rfl) (by omega) (by decide) ?_
      refine v_iastN (pc := 66) (k0 := k) F dX10_again_66 (lm10_4 lm0) (rfl) (by omega) (by decide) ?_
      refine v_aload_n (pc := 67) (i := 0) F dX10_again_67 rfl rfl ?_
      refine v_getR (pc := 68) (o := 5) F fX10_22 dX10_again_68 rfl lm0 ?_
      refine v_topR (y := 5) rfl ?_
      refine v_iload_n (pc := 71) (i := 2) F dX10_again_71 rfl rfl ?_
      refine v_aload_n (pc := 72) (i := 1) F dX10_again_72 rfl rfl ?_
      refine v_bipush (pc := 73) (v := nI 36) F dX10_again_73 (by decide) ?_
      refine v_iload_n (pc := 75) (i := 2) F dX10_again_75 rfl rfl ?_
      refine v_iadd (pc := 76) F dX10_again_76 ?_
      refine v_topE (nI_add _ _) ?_
      refine v_ialdN (pc := 77) (k0 := 36 + k) F dX10_again_77 ((lm10_22 lm0)) (rfl) (by omega) (by decide) ?_
      refine v_iastN (pc := 78) (k0 := k) F dX10_again_78 (lm10_5 lm0) (rfl) (by omega) (by decide) ?_
      refine v_aload_n (pc := 79) (i := 0) F dX10_again_79 rfl rfl ?_
      refine v_getR (pc := 80) (o := 6) F fX10_25 dX10_again_80 rfl lm0 ?_
      refine v_topR (y := 6) rfl ?_
      refine v_iload_n (pc := 83) (i := 2) F dX10_again_83 rfl rfl ?_
      refine v_aload_n (pc := 84) (i := 1) F dX10_again_84 rfl rfl ?_
      refine v_bipush (pc := 85) (v := nI 44) F dX10_again_85 (by decide) ?_
      refine v_iload_n (pc := 87) (i := 2) F dX10_again_87 rfl rfl ?_
      refine v_iadd (pc := 88) F dX10_again_88 ?_
      refine v_topE (nI_add _ _) ?_
      refine v_ialdN (pc := 89) (k0 := 44 + k) F dX10_again_89 ((lm10_22 lm0)) (rfl) (by omega) (by decide) ?_
      refine v_iastN (pc := 90) (k0 := k) F dX10_again_90 (lm10_6 lm0) (rfl) (by omega) (by decide) ?_
      refine v_aload_n (pc := 91) (i := 0) F dX10_again_91 rfl rfl ?_
      refine v_getR (pc := 92) (o := 7) F fX10_28 dX10_again_92 rfl lm0 ?_
      refine v_topR (y := 7) rfl ?_
      refine v_iload_n (pc := 95) (i := 2) F dX10_again_95 rfl rfl ?_
      refine v_aload_n (pc := 96) (i := 1) F dX10_again_96 rfl rfl ?_
      refine v_bipush (pc := 97) (v := nI 52) F dX10_again_97 (by decide) ?_
      refine v_iload_n (pc := 99) (i := 2) F dX10_again_99 rfl rfl ?_
      refine v_iadd (pc := 100) F dX10_again_100 ?_
      refine v_topE (nI_add _ _) ?_
      refine v_ialdN (pc := 101) (k0 := 52 + k) F dX10_again_101 ((lm10_22 lm0)) (rfl) (by omega) (by decide) ?_
      refine v_iastN (pc := 102) (k0 := k) F dX10_again_102 (lm10_7 lm0) (rfl) (by omega) (by decide) ?_
      refine v_iinc (pc := 103) (i := 2) (v := nI (k + 1)) (lo' := [some (.ref _), some (.ref _), some (.int _)]) F dX10_again_103 rfl (j_inc _) rfl rfl ?_
      refine v_goto (pc := 106) (tgt := 25) F dX10_again_106 (by decide) ?_
      subst hI
      refine ih (by omega) _ ?_
      rw [AM_pI]
      rw [AM_pI]
      rw [AM_pI]
      rw [AM_pI]
      rw [AM_pI]
      rw [AM_pI]
      · exact AM_congr (fun c j => by refine Bool.eq_iff_iff.mpr ?_; simp only [Bool.or_eq_true, decide_eq_true_eq, kAll, aAll]; omega)
      · rw [AM_w (by simp)]
        rfl
      · rw [AM_w (by simp)]
        rfl
      · rw [AM_w (by simp)]
        rfl
      · rw [AM_w (by simp)]
        rfl
      · rw [AM_w (by simp)]
        rfl
      · rw [AM_w (by simp)]
        rfl
  · rw [nI_leI (by omega) (by omega)] at h5_1
    refine v_aload_n (pc := 8) (i := 0) F dX10_again_8 rfl rfl ?_
    refine v_getR (pc := 9) (o := 1) F fX10_9 dX10_again_9 rfl lm0 ?_
    refine v_topR (y := 1) rfl ?_
    refine v_iload_n (pc := 12) (i := 2) F dX10_again_12 rfl rfl ?_
    refine v_aload_n (pc := 13) (i := 1) F dX10_again_13 rfl rfl ?_
    refine v_iload_n (pc := 14) (i := 2) F dX10_again_14 rfl rfl ?_
    refine v_ialdN (pc := 15) (k0 := k) F dX10_again_15 ((lm10_22 lm0)) (rfl) (by omega) (by decide) ?_
    refine v_iastN (pc := 16) (k0 := k) F dX10_again_16 (lm10_0 lm0) (rfl) (by omega) (by decide) ?_
    refine v_iinc (pc := 17) (i := 2) (v := nI (k + 1)) (lo' := [some (.ref _), some (.ref _), some (.int _)]) F dX10_again_17 rfl (j_inc _) rfl rfl ?_
    refine v_goto (pc := 20) (tgt := 2) F dX10_again_20 (by decide) ?_
    subst hI
    refine ih (by omega) _ ?_
    rw [AM_pI]
    · exact AM_congr (fun c j => by refine Bool.eq_iff_iff.mpr ?_; simp only [Bool.or_eq_true, decide_eq_true_eq, kAll, aAll]; omega)
    · rw [AM_w (by simp)]
      rfl

set_option maxRecDepth 100000 in
theorem c_X10_image  (μ : j_M) (hM : MI μ) : Ct yX10_image cX10_image 1 (some .int) 1 ΛM [.ref 0] μ (pI fun r μ2 => r = (s_image μ).1 ∧ Fm PS (s_image μ).2 μ2) := by
  refine Ct.go (lo := [some (.ref 0)]) (by decide) (Nat.le_of_ble_eq_true rfl) rfl rfl (fun X F => ?_)
  have F : Fx X cX10_image RX10 1 (some .int) ΛM := F
  obtain ⟨n, hW, hsh, htp, him⟩ := id hM
  have hn := hW.1
  have hn8 := hW.2.1
  have hnn := nn_eq hn hn8
  have ho := hW.own
  have hrw : RW μ.1 n μ := RW.self hn
  have hpw := j_pw hn8
  refine v_aload_n (pc := 0) (i := 0) F dX10_image_0 rfl rfl ?_
  refine v_iconst (pc := 1) (v := nI 1) F dX10_image_1 (by decide) ?_
  refine v_put (pc := 2) F fX10_317 dX10_image_2 rfl rfl (by decide) lm0 ?_
  refine v_aload_n (pc := 5) (i := 0) F dX10_image_5 rfl rfl ?_
  refine v_aload_n (pc := 6) (i := 0) F dX10_image_6 rfl rfl ?_
  refine v_getR (pc := 7) (o := 14) F fX10_50 dX10_image_7 rfl lm0 ?_
  refine v_topR (y := 14) rfl ?_
  refine v_callVV (pc := 10) (As := [_]) (rest := []) (c := 10) F mX10_keep kX10_183 im_X10_keep se_X10_keep dX10_image_10 rfl rfl (by decide) (c_X10_keep _) (by decide) rfl rfl (Nat.le_of_ble_eq_true rfl) lm0 (fun μ1 hp1 => ?_)
  rw [hp1]
  refine v_iconst (pc := 13) (v := nI 1) F dX10_image_13 (by decide) ?_
  refine v_ireturn (pc := 14) F dX10_image_14 (rfl) ?_
  simp only [s_image, hnn, ↓reduceIte]
  refine ⟨?_, ?_⟩ <;> first | exact trivial | exact rfl | exact Fm.rf
