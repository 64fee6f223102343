/-! the reference's copy: method -/
theorem dX_00 {N : Nat} : nI N - nI 1 = dX N 0 := by
  by_cases h : 0 < N
  · rw [dX_lt h, pk_sub (by omega)]; rfl
  · rw [dX_ge (by omega), show N = 0 by omega]; rfl

set_option maxRecDepth 100000 in
theorem c_X10_copy (p q i j n_ : Int32) (μ : j_M) (hM : MI μ) : Ct yX10_copy cX10_copy 7 (some .int) 2 ΛM [.ref 0, .int p, .int q, .int i, .int j, .int n_] μ (pI fun r μ2 => r = (s_copy p q i j n_ μ).1 ∧ Fm PS (s_copy p q i j n_ μ).2 μ2) := by
  refine Ct.go (lo := [some (.ref 0), some (.int p), some (.int q), some (.int i), some (.int j), some (.int n_), none]) (by decide) (Nat.le_of_ble_eq_true rfl) rfl rfl (fun X F => ?_)
  have F : Fx X cX10_copy RX10 2 (some .int) ΛM := F
  obtain ⟨n, hW, hsh, htp, him⟩ := id hM
  have hn := hW.1
  have hn8 := hW.2.1
  have hnn := nn_eq hn hn8
  have ho := hW.own
  have hrw : RW μ.1 n μ := RW.self hn
  have hpw := j_pw hn8
  refine v_iload_n (pc := 0) (i := 1) F dX10_copy_0 rfl rfl ?_
  refine v_callSI (pc := 1) (As := [_]) (rest := []) F mX10_isShelf kX10_92 sm_X10_isShelf dX10_copy_1 (c_X10_isShelf _ _) (by decide) rfl rfl (Nat.le_of_ble_eq_true rfl) (fun x1 μ1 hp1 => ?_)
  rw [hp1.1, hp1.2]
  refine v_if_eq (pc := 4) (tgt := 14) F dX10_copy_4 (by decide) (fun hbp => ?_) (fun hbp => ?_)
  · rw [b2i_0] at hbp
    refine v_aload_n (pc := 14) (i := 0) F dX10_copy_14 rfl rfl ?_
    refine v_bipush (pc := 15) (v := (-2)) F dX10_copy_15 (by decide) ?_
    refine v_callVI (pc := 17) (As := [_]) (rest := []) (c := 10) F mX10_no kX10_96 im_X10_no se_X10_no dX10_copy_17 rfl rfl (by decide) (c_X10_no (-2) 2 (by decide) (by decide) _) (by decide) rfl rfl (Nat.le_of_ble_eq_true rfl) lm0 (fun x3 μ3 hp3 => ?_)
    rw [hp3.1, hp3.2]
    refine v_ireturn (pc := 20) F dX10_copy_20 (rfl) ?_
    simp only [s_copy, rj, hnn, hbp, ↓reduceIte]
    refine ⟨?_, ?_⟩ <;> first | exact trivial | exact rfl | exact Fm.rf
  · rw [b2i_0] at hbp
    rw [Classical.not_not] at hbp
    obtain ⟨k_p, hk_p, he_p⟩ := inR_of (by decide) hbp
    subst he_p
    have ek_p : ix (nI k_p) = k_p := nI_clamp (by omega)
    refine v_iload_n (pc := 7) (i := 2) F dX10_copy_7 rfl rfl ?_
    refine v_callSI (pc := 8) (As := [_]) (rest := []) F mX10_isShelf kX10_92 sm_X10_isShelf dX10_copy_8 (c_X10_isShelf _ _) (by decide) rfl rfl (Nat.le_of_ble_eq_true rfl) (fun x4 μ4 hp4 => ?_)
    rw [hp4.1, hp4.2]
    refine v_if_ne (pc := 11) (tgt := 21) F dX10_copy_11 (by decide) (fun hbq => ?_) (fun hbq => ?_)
    · rw [b2i_0] at hbq
      rw [Classical.not_not] at hbq
      obtain ⟨k_q, hk_q, he_q⟩ := inR_of (by decide) hbq
      subst he_q
      have ek_q : ix (nI k_q) = k_q := nI_clamp (by omega)
      refine v_aload_n (pc := 21) (i := 0) F dX10_copy_21 rfl rfl ?_
      refine v_getR (pc := 22) (o := 10) F fX10_37 dX10_copy_22 rfl lm0 ?_
      refine v_topR (y := 10) rfl ?_
      refine v_iload_n (pc := 25) (i := 1) F dX10_copy_25 rfl rfl ?_
      refine v_ialdN (pc := 26) (k0 := k_p) F dX10_copy_26 (lm10_17 lm0) (rfl) (by omega) (by decide) ?_
      refine v_bipush (pc := 27) (v := nI 10) F dX10_copy_27 (by decide) ?_
      refine v_icmp_ge (pc := 29) (tgt := 74) F dX10_copy_29 (by decide) (fun hP => ?_) (fun hP => ?_)
      · skip
        refine v_aload_n (pc := 74) (i := 0) F dX10_copy_74 rfl rfl ?_
        refine v_bipush (pc := 75) (v := (-3)) F dX10_copy_75 (by decide) ?_
        refine v_callVI (pc := 77) (As := [_]) (rest := []) (c := 10) F mX10_no kX10_96 im_X10_no se_X10_no dX10_copy_77 rfl rfl (by decide) (c_X10_no (-3) 3 (by decide) (by decide) _) (by decide) rfl rfl (Nat.le_of_ble_eq_true rfl) lm0 (fun x7 μ7 hp7 => ?_)
        rw [hp7.1, hp7.2]
        refine v_ireturn (pc := 80) F dX10_copy_80 (rfl) ?_
        have c3 : nI 10 ≤ μ.1 10 k_p ∨ nI 10 ≤ μ.1 10 k_q ∨ (inQ 5 (μ.1 10 k_p) = true ∧ inQ 5 (μ.1 10 k_q) = true ∧ ¬ μ.1 10 k_p = μ.1 10 k_q) := by first | exact Or.inl hP | exact Or.inr (Or.inl hQ) | exact Or.inr (Or.inr ⟨hrP, hrQ, heq⟩)
        simp only [s_copy, rj, hbp, hbq, ek_p, ek_q, ↓reduceIte]
        rw [if_pos c3]
        refine ⟨?_, ?_⟩ <;> first | exact trivial | exact rfl | exact Fm.rf
      · skip
        refine v_aload_n (pc := 32) (i := 0) F dX10_copy_32 rfl rfl ?_
        refine v_getR (pc := 33) (o := 10) F fX10_37 dX10_copy_33 rfl lm0 ?_
        refine v_topR (y := 10) rfl ?_
        refine v_iload_n (pc := 36) (i := 2) F dX10_copy_36 rfl rfl ?_
        refine v_ialdN (pc := 37) (k0 := k_q) F dX10_copy_37 (lm10_17 lm0) (rfl) (by omega) (by decide) ?_
        refine v_bipush (pc := 38) (v := nI 10) F dX10_copy_38 (by decide) ?_
        refine v_icmp_ge (pc := 40) (tgt := 74) F dX10_copy_40 (by decide) (fun hQ => ?_) (fun hQ => ?_)
        · skip
          refine v_aload_n (pc := 74) (i := 0) F dX10_copy_74 rfl rfl ?_
          refine v_bipush (pc := 75) (v := (-3)) F dX10_copy_75 (by decide) ?_
          refine v_callVI (pc := 77) (As := [_]) (rest := []) (c := 10) F mX10_no kX10_96 im_X10_no se_X10_no dX10_copy_77 rfl rfl (by decide) (c_X10_no (-3) 3 (by decide) (by decide) _) (by decide) rfl rfl (Nat.le_of_ble_eq_true rfl) lm0 (fun x9 μ9 hp9 => ?_)
          rw [hp9.1, hp9.2]
          refine v_ireturn (pc := 80) F dX10_copy_80 (rfl) ?_
          have c3 : nI 10 ≤ μ.1 10 k_p ∨ nI 10 ≤ μ.1 10 k_q ∨ (inQ 5 (μ.1 10 k_p) = true ∧ inQ 5 (μ.1 10 k_q) = true ∧ ¬ μ.1 10 k_p = μ.1 10 k_q) := by first | exact Or.inl hP | exact Or.inr (Or.inl hQ) | exact Or.inr (Or.inr ⟨hrP, hrQ, heq⟩)
          simp only [s_copy, rj, hbp, hbq, ek_p, ek_q, ↓reduceIte]
          rw [if_pos c3]
          refine ⟨?_, ?_⟩ <;> first | exact trivial | exact rfl | exact Fm.rf
        · skip
          refine v_aload_n (pc := 43) (i := 0) F dX10_copy_43 rfl rfl ?_
          refine v_iload_n (pc := 44) (i := 1) F dX10_copy_44 rfl rfl ?_
          refine v_callVI (pc := 45) (As := [_]) (rest := []) (c := 10) F mX10_isRow kX10_100 im_X10_isRow se_X10_isRow dX10_copy_45 rfl rfl (by decide) (c_X10_isRow k_p (by omega) _) (by decide) rfl rfl (Nat.le_of_ble_eq_true rfl) lm0 (fun x10 μ10 hp10 => ?_)
          rw [hp10.1, hp10.2]
          refine v_if_eq (pc := 48) (tgt := 81) F dX10_copy_48 (by decide) (fun hrP => ?_) (fun hrP => ?_)
          · rw [b2i_0] at hrP
            have c3 : ¬ (nI 10 ≤ μ.1 10 k_p ∨ nI 10 ≤ μ.1 10 k_q ∨ (inQ 5 (μ.1 10 k_p) = true ∧ inQ 5 (μ.1 10 k_q) = true ∧ ¬ μ.1 10 k_p = μ.1 10 k_q)) := by
              rintro (z | z | ⟨z1, z2, z3⟩)
              · exact hP z
              · exact hQ z
              · first | exact hrP z1 | exact hrQ z2 | exact z3 heq
            refine v_aload_n (pc := 81) (i := 0) F dX10_copy_81 rfl rfl ?_
            refine v_getR (pc := 82) (o := 10) F fX10_37 dX10_copy_82 rfl lm0 ?_
            refine v_topR (y := 10) rfl ?_
            refine v_iload_n (pc := 85) (i := 1) F dX10_copy_85 rfl rfl ?_
            refine v_ialdN (pc := 86) (k0 := k_p) F dX10_copy_86 (lm10_17 lm0) (rfl) (by omega) (by decide) ?_
            refine v_if_lt (pc := 87) (tgt := 99) F dX10_copy_87 (by decide) (fun hp0 => ?_) (fun hp0 => ?_)
            · skip
              refine v_aload_n (pc := 99) (i := 0) F dX10_copy_99 rfl rfl ?_
              refine v_bipush (pc := 100) (v := (-4)) F dX10_copy_100 (by decide) ?_
              refine v_callVI (pc := 102) (As := [_]) (rest := []) (c := 10) F mX10_no kX10_96 im_X10_no se_X10_no dX10_copy_102 rfl rfl (by decide) (c_X10_no (-4) 4 (by decide) (by decide) _) (by decide) rfl rfl (Nat.le_of_ble_eq_true rfl) lm0 (fun x13 μ13 hp13 => ?_)
              rw [hp13.1, hp13.2]
              refine v_ireturn (pc := 105) F dX10_copy_105 (rfl) ?_
              have c4 : μ.1 10 k_p < 0 ∨ μ.1 10 k_q < 0 := by first | exact Or.inl hp0 | exact Or.inr (Int32.not_le.mp hq0)
              simp only [s_copy, rj, hbp, hbq, ek_p, ek_q, ↓reduceIte]
              rw [if_neg c3, if_pos c4]
              refine ⟨?_, ?_⟩ <;> first | exact trivial | exact rfl | exact Fm.rf
            · skip
              refine v_aload_n (pc := 90) (i := 0) F dX10_copy_90 rfl rfl ?_
              refine v_getR (pc := 91) (o := 10) F fX10_37 dX10_copy_91 rfl lm0 ?_
              refine v_topR (y := 10) rfl ?_
              refine v_iload_n (pc := 94) (i := 2) F dX10_copy_94 rfl rfl ?_
              refine v_ialdN (pc := 95) (k0 := k_q) F dX10_copy_95 (lm10_17 lm0) (rfl) (by omega) (by decide) ?_
              refine v_if_ge (pc := 96) (tgt := 106) F dX10_copy_96 (by decide) (fun hq0 => ?_) (fun hq0 => ?_)
              · skip
                have c4 : ¬ (μ.1 10 k_p < 0 ∨ μ.1 10 k_q < 0) := by
                  rintro (z | z)
                  · exact hp0 z
                  · exact absurd z (Int32.not_lt.mpr hq0)
                refine v_iload (pc := 106) (i := 5) F dX10_copy_106 rfl ?_
                refine v_if_lt (pc := 108) (tgt := 155) F dX10_copy_108 (by decide) (fun hn0 => ?_) (fun hn0 => ?_)
                · skip
                  refine v_aload_n (pc := 155) (i := 0) F dX10_copy_155 rfl rfl ?_
                  refine v_bipush (pc := 156) (v := (-2)) F dX10_copy_156 (by decide) ?_
                  refine v_callVI (pc := 158) (As := [_]) (rest := []) (c := 10) F mX10_no kX10_96 im_X10_no se_X10_no dX10_copy_158 rfl rfl (by decide) (c_X10_no (-2) 2 (by decide) (by decide) _) (by decide) rfl rfl (Nat.le_of_ble_eq_true rfl) lm0 (fun x16 μ16 hp16 => ?_)
                  rw [hp16.1, hp16.2]
                  refine v_ireturn (pc := 161) F dX10_copy_161 (rfl) ?_
                  have c2 : n_ < 0 ∨ i < 0 ∨ j < 0 ∨ ix (μ.1 11 k_p) < ix (i) + ix (n_) ∨ ix (μ.1 11 k_q) < ix (j) + ix (n_) := by first | exact Or.inl hn0 | exact Or.inr (Or.inl hi0) | exact Or.inr (Or.inr (Or.inl hj0))
                  simp only [s_copy, rj, hbp, hbq, ek_p, ek_q, ↓reduceIte]
                  rw [if_neg c3, if_neg c4, if_pos c2]
                  refine ⟨?_, ?_⟩ <;> first | exact trivial | exact rfl | exact Fm.rf
                · skip
                  refine v_iload_n (pc := 111) (i := 3) F dX10_copy_111 rfl rfl ?_
                  refine v_if_lt (pc := 112) (tgt := 155) F dX10_copy_112 (by decide) (fun hi0 => ?_) (fun hi0 => ?_)
                  · skip
                    refine v_aload_n (pc := 155) (i := 0) F dX10_copy_155 rfl rfl ?_
                    refine v_bipush (pc := 156) (v := (-2)) F dX10_copy_156 (by decide) ?_
                    refine v_callVI (pc := 158) (As := [_]) (rest := []) (c := 10) F mX10_no kX10_96 im_X10_no se_X10_no dX10_copy_158 rfl rfl (by decide) (c_X10_no (-2) 2 (by decide) (by decide) _) (by decide) rfl rfl (Nat.le_of_ble_eq_true rfl) lm0 (fun x18 μ18 hp18 => ?_)
                    rw [hp18.1, hp18.2]
                    refine v_ireturn (pc := 161) F dX10_copy_161 (rfl) ?_
                    have c2 : n_ < 0 ∨ i < 0 ∨ j < 0 ∨ ix (μ.1 11 k_p) < ix (i) + ix (n_) ∨ ix (μ.1 11 k_q) < ix (j) + ix (n_) := by first | exact Or.inl hn0 | exact Or.inr (Or.inl hi0) | exact Or.inr (Or.inr (Or.inl hj0))
                    simp only [s_copy, rj, hbp, hbq, ek_p, ek_q, ↓reduceIte]
                    rw [if_neg c3, if_neg c4, if_pos c2]
                    refine ⟨?_, ?_⟩ <;> first | exact trivial | exact rfl | exact Fm.rf
                  · skip
                    refine v_iload (pc := 115) (i := 4) F dX10_copy_115 rfl ?_
                    refine v_if_lt (pc := 117) (tgt := 155) F dX10_copy_117 (by decide) (fun hj0 => ?_) (fun hj0 => ?_)
                    · skip
                      refine v_aload_n (pc := 155) (i := 0) F dX10_copy_155 rfl rfl ?_
                      refine v_bipush (pc := 156) (v := (-2)) F dX10_copy_156 (by decide) ?_
                      refine v_callVI (pc := 158) (As := [_]) (rest := []) (c := 10) F mX10_no kX10_96 im_X10_no se_X10_no dX10_copy_158 rfl rfl (by decide) (c_X10_no (-2) 2 (by decide) (by decide) _) (by decide) rfl rfl (Nat.le_of_ble_eq_true rfl) lm0 (fun x20 μ20 hp20 => ?_)
                      rw [hp20.1, hp20.2]
                      refine v_ireturn (pc := 161) F dX10_copy_161 (rfl) ?_
                      have c2 : n_ < 0 ∨ i < 0 ∨ j < 0 ∨ ix (μ.1 11 k_p) < ix (i) + ix (n_) ∨ ix (μ.1 11 k_q) < ix (j) + ix (n_) := by first | exact Or.inl hn0 | exact Or.inr (Or.inl hi0) | exact Or.inr (Or.inr (Or.inl hj0))
                      simp only [s_copy, rj, hbp, hbq, ek_p, ek_q, ↓reduceIte]
                      rw [if_neg c3, if_neg c4, if_pos c2]
                      refine ⟨?_, ?_⟩ <;> first | exact trivial | exact rfl | exact Fm.rf
                    · skip
                      obtain ⟨ki, hki, hie⟩ := nI_of hi0
                      obtain ⟨kj, hkj, hje⟩ := nI_of hj0
                      obtain ⟨kn, hkn, hne⟩ := nI_of hn0
                      subst hie hje hne
                      obtain ⟨mp, hmp40, hmp⟩ := SH_mid (hsh k_p (by omega)) hn8 hP hp0
                      obtain ⟨mq, hmq40, hmq⟩ := SH_mid (hsh k_q (by omega)) hn8 hQ (Int32.not_lt.mpr hq0)
                      refine v_iload_n (pc := 120) (i := 3) F dX10_copy_120 rfl rfl ?_
                      refine v_i2l (pc := 121) F dX10_copy_121 ?_
                      refine v_iload (pc := 122) (i := 5) F dX10_copy_122 rfl ?_
                      refine v_i2l (pc := 124) F dX10_copy_124 ?_
                      refine v_ladd (pc := 125) F dX10_copy_125 ?_
                      refine v_aload_n (pc := 126) (i := 0) F dX10_copy_126 rfl rfl ?_
                      refine v_getR (pc := 127) (o := 11) F fX10_40 dX10_copy_127 rfl lm0 ?_
                      refine v_topR (y := 11) rfl ?_
                      refine v_iload_n (pc := 130) (i := 1) F dX10_copy_130 rfl rfl ?_
                      refine v_ialdN (pc := 131) (k0 := k_p) F dX10_copy_131 (lm10_18 lm0) (rfl) (by omega) (by decide) ?_
                      refine v_topE (y := nI mp) (hmp) ?_
                      refine v_i2l (pc := 132) F dX10_copy_132 ?_
                      refine v_lcmp (pc := 133) F dX10_copy_133 ?_
                      refine v_if_gt (pc := 134) (tgt := 155) F dX10_copy_134 (by decide) (fun hlp => ?_) (fun hlp => ?_)
                      · rw [nI_l (by omega), nI_l (by omega), nI_l (by omega), lN_add, lc_gt, pk_lLT (by omega) (by omega)] at hlp
                        refine v_aload_n (pc := 155) (i := 0) F dX10_copy_155 rfl rfl ?_
                        refine v_bipush (pc := 156) (v := (-2)) F dX10_copy_156 (by decide) ?_
                        refine v_callVI (pc := 158) (As := [_]) (rest := []) (c := 10) F mX10_no kX10_96 im_X10_no se_X10_no dX10_copy_158 rfl rfl (by decide) (c_X10_no (-2) 2 (by decide) (by decide) _) (by decide) rfl rfl (Nat.le_of_ble_eq_true rfl) lm0 (fun x22 μ22 hp22 => ?_)
                        rw [hp22.1, hp22.2]
                        refine v_ireturn (pc := 161) F dX10_copy_161 (rfl) ?_
                        have c2 : (nI kn) < 0 ∨ (nI ki) < 0 ∨ (nI kj) < 0 ∨ ix (μ.1 11 k_p) < ix ((nI ki)) + ix ((nI kn)) ∨ ix (μ.1 11 k_q) < ix ((nI kj)) + ix ((nI kn)) := by first | exact Or.inr (Or.inr (Or.inr (Or.inl (by rw [hmp, ix_nI (by omega), ix_nI hki, ix_nI hkn]; omega)))) | exact Or.inr (Or.inr (Or.inr (Or.inr (by rw [hmq, ix_nI (by omega), ix_nI hkj, ix_nI hkn]; omega))))
                        simp only [s_copy, rj, hbp, hbq, ek_p, ek_q, ↓reduceIte]
                        rw [if_neg c3, if_neg c4, if_pos c2]
                        refine ⟨?_, ?_⟩ <;> first | exact trivial | exact rfl | exact Fm.rf
                      · rw [nI_l (by omega), nI_l (by omega), nI_l (by omega), lN_add, lc_gt, pk_lLT (by omega) (by omega)] at hlp
                        refine v_iload (pc := 137) (i := 4) F dX10_copy_137 rfl ?_
                        refine v_i2l (pc := 139) F dX10_copy_139 ?_
                        refine v_iload (pc := 140) (i := 5) F dX10_copy_140 rfl ?_
                        refine v_i2l (pc := 142) F dX10_copy_142 ?_
                        refine v_ladd (pc := 143) F dX10_copy_143 ?_
                        refine v_aload_n (pc := 144) (i := 0) F dX10_copy_144 rfl rfl ?_
                        refine v_getR (pc := 145) (o := 11) F fX10_40 dX10_copy_145 rfl lm0 ?_
                        refine v_topR (y := 11) rfl ?_
                        refine v_iload_n (pc := 148) (i := 2) F dX10_copy_148 rfl rfl ?_
                        refine v_ialdN (pc := 149) (k0 := k_q) F dX10_copy_149 (lm10_18 lm0) (rfl) (by omega) (by decide) ?_
                        refine v_topE (y := nI mq) (hmq) ?_
                        refine v_i2l (pc := 150) F dX10_copy_150 ?_
                        refine v_lcmp (pc := 151) F dX10_copy_151 ?_
                        refine v_if_le (pc := 152) (tgt := 162) F dX10_copy_152 (by decide) (fun hlq => ?_) (fun hlq => ?_)
                        · rw [nI_l (by omega), nI_l (by omega), nI_l (by omega), lN_add, lc_le, pk_lLE (by omega) (by omega)] at hlq
                          refine v_iload_n (pc := 162) (i := 1) F dX10_copy_162 rfl rfl ?_
                          refine v_iload_n (pc := 163) (i := 2) F dX10_copy_163 rfl rfl ?_
                          refine v_icmp_ne (pc := 164) (tgt := 222) F dX10_copy_164 (by decide) (fun hpq => ?_) (fun hpq => ?_)
                          · rw [nI_eq (by omega) (by omega)] at hpq
                            refine v_iconst (pc := 222) (v := nI 0) F dX10_copy_222 (by decide) ?_
                            refine v_istore (pc := 223) (lo' := [some (.ref _), some (.int _), some (.int _), some (.int _), some (.int _), some (.int _), some (.int _)]) F dX10_copy_223 rfl (Nat.le_of_ble_eq_true rfl) rfl ?_
                            refine j_up kn (fun x => ∀ μ' : j_M, (μ' = j_cL μ 12 12 (40 * k_p + ki) (40 * k_q + kj) x) → V X _ 225 [some (.ref 0), some (.int (nI k_p)), some (.int (nI k_q)), some (.int (nI ki)), some (.int (nI kj)), some (.int (nI kn)), some (.int (nI x))] [] μ') (fun x hk ih μ' hI => ?_) 0 (Nat.zero_le _) μ (cL_0.symm)
                            refine v_iload (pc := 225) (i := 6) F dX10_copy_225 rfl ?_
                            refine v_iload (pc := 227) (i := 5) F dX10_copy_227 rfl ?_
                            refine v_icmp_ge (pc := 229) (tgt := 267) F dX10_copy_229 (by decide) (fun h229_25 => ?_) (fun h229_25 => ?_)
                            · rw [nI_leI (by omega) (by omega)] at h229_25
                              refine v_iload (pc := 267) (i := 5) F dX10_copy_267 rfl ?_
                              refine v_ireturn (pc := 269) F dX10_copy_269 (rfl) ?_
                              have c2 : ¬ ((nI kn) < 0 ∨ (nI ki) < 0 ∨ (nI kj) < 0 ∨ ix (μ.1 11 k_p) < ix ((nI ki)) + ix ((nI kn)) ∨ ix (μ.1 11 k_q) < ix ((nI kj)) + ix ((nI kn))) := by
                                rintro (z | z | z | z | z)
                                · exact nI_pos hkn z
                                · exact nI_pos hki z
                                · exact nI_pos hkj z
                                · rw [hmp, ix_nI (by omega), ix_nI hki, ix_nI hkn] at z; omega
                                · rw [hmq, ix_nI (by omega), ix_nI hkj, ix_nI hkn] at z; omega
                              have e : x = kn := by omega
                              subst e
                              simp only [s_copy, rj, hbp, hbq, ek_p, ek_q, ↓reduceIte]
                              rw [if_neg c3, if_neg c4, if_neg c2, ix_nI hki, ix_nI hkj, ix_nI hkn]
                              refine ⟨by first | exact trivial | exact rfl, ?_⟩
                              rw [hI]
                              first | exact Fm.rf | (rw [show 40 * k_p + ki + (x - x) = 40 * k_p + ki by omega, show 40 * k_q + kj + (x - x) = 40 * k_q + kj by omega]; exact Fm.rf)
                            · rw [nI_leI (by omega) (by omega)] at h229_25
                              refine v_aload_n (pc := 232) (i := 0) F dX10_copy_232 rfl rfl ?_
                              refine v_getR (pc := 233) (o := 12) F fX10_43 dX10_copy_233 rfl lm0 ?_
                              refine v_topR (y := 12) rfl ?_
                              refine v_bipush (pc := 236) (v := nI 40) F dX10_copy_236 (by decide) ?_
                              refine v_iload_n (pc := 238) (i := 2) F dX10_copy_238 rfl rfl ?_
                              refine v_imul (pc := 239) F dX10_copy_239 ?_
                              refine v_topE (pk_mul _ _) ?_
                              refine v_iload (pc := 240) (i := 4) F dX10_copy_240 rfl ?_
                              refine v_iadd (pc := 242) F dX10_copy_242 ?_
                              refine v_topE (nI_add _ _) ?_
                              refine v_iload (pc := 243) (i := 6) F dX10_copy_243 rfl ?_
                              refine v_iadd (pc := 245) F dX10_copy_245 ?_
                              refine v_topE (nI_add _ _) ?_
                              refine v_aload_n (pc := 246) (i := 0) F dX10_copy_246 rfl rfl ?_
                              refine v_getR (pc := 247) (o := 12) F fX10_43 dX10_copy_247 rfl lm0 ?_
                              refine v_topR (y := 12) rfl ?_
                              refine v_bipush (pc := 250) (v := nI 40) F dX10_copy_250 (by decide) ?_
                              refine v_iload_n (pc := 252) (i := 1) F dX10_copy_252 rfl rfl ?_
                              refine v_imul (pc := 253) F dX10_copy_253 ?_
                              refine v_topE (pk_mul _ _) ?_
                              refine v_iload_n (pc := 254) (i := 3) F dX10_copy_254 rfl rfl ?_
                              refine v_iadd (pc := 255) F dX10_copy_255 ?_
                              refine v_topE (nI_add _ _) ?_
                              refine v_iload (pc := 256) (i := 6) F dX10_copy_256 rfl ?_
                              refine v_iadd (pc := 258) F dX10_copy_258 ?_
                              refine v_topE (nI_add _ _) ?_
                              refine v_laldN (pc := 259) (k0 := 40 * k_p + ki + x) F dX10_copy_259 (lm10_19 lm0) (rfl) (by omega) (by decide) ?_
                              refine v_lastN (pc := 260) (k0 := 40 * k_q + kj + x) F dX10_copy_260 (lm10_19 lm0) (rfl) (by omega) (by decide) ?_
                              refine v_iinc (pc := 261) (i := 6) (v := nI (x + 1)) (lo' := [some (.ref _), some (.int _), some (.int _), some (.int _), some (.int _), some (.int _), some (.int _)]) F dX10_copy_261 rfl (j_inc _) rfl rfl ?_
                              refine v_goto (pc := 264) (tgt := 225) F dX10_copy_264 (by decide) ?_
                              refine ih (by omega) _ ?_
                              rw [hI]
                              exact cL_up (cL_o (by omega))
                          · rw [nI_eq (by omega) (by omega)] at hpq
                            refine v_iload_n (pc := 167) (i := 3) F dX10_copy_167 rfl rfl ?_
                            refine v_iload (pc := 168) (i := 4) F dX10_copy_168 rfl ?_
                            refine v_icmp_ge (pc := 170) (tgt := 222) F dX10_copy_170 (by decide) (fun hij => ?_) (fun hij => ?_)
                            · rw [nI_leI (by omega) (by omega)] at hij
                              refine v_iconst (pc := 222) (v := nI 0) F dX10_copy_222 (by decide) ?_
                              refine v_istore (pc := 223) (lo' := [some (.ref _), some (.int _), some (.int _), some (.int _), some (.int _), some (.int _), some (.int _)]) F dX10_copy_223 rfl (Nat.le_of_ble_eq_true rfl) rfl ?_
                              refine j_up kn (fun x => ∀ μ' : j_M, (μ' = j_cL μ 12 12 (40 * k_p + ki) (40 * k_q + kj) x) → V X _ 225 [some (.ref 0), some (.int (nI k_p)), some (.int (nI k_q)), some (.int (nI ki)), some (.int (nI kj)), some (.int (nI kn)), some (.int (nI x))] [] μ') (fun x hk ih μ' hI => ?_) 0 (Nat.zero_le _) μ (cL_0.symm)
                              refine v_iload (pc := 225) (i := 6) F dX10_copy_225 rfl ?_
                              refine v_iload (pc := 227) (i := 5) F dX10_copy_227 rfl ?_
                              refine v_icmp_ge (pc := 229) (tgt := 267) F dX10_copy_229 (by decide) (fun h229_27 => ?_) (fun h229_27 => ?_)
                              · rw [nI_leI (by omega) (by omega)] at h229_27
                                refine v_iload (pc := 267) (i := 5) F dX10_copy_267 rfl ?_
                                refine v_ireturn (pc := 269) F dX10_copy_269 (rfl) ?_
                                have c2 : ¬ ((nI kn) < 0 ∨ (nI ki) < 0 ∨ (nI kj) < 0 ∨ ix (μ.1 11 k_p) < ix ((nI ki)) + ix ((nI kn)) ∨ ix (μ.1 11 k_q) < ix ((nI kj)) + ix ((nI kn))) := by
                                  rintro (z | z | z | z | z)
                                  · exact nI_pos hkn z
                                  · exact nI_pos hki z
                                  · exact nI_pos hkj z
                                  · rw [hmp, ix_nI (by omega), ix_nI hki, ix_nI hkn] at z; omega
                                  · rw [hmq, ix_nI (by omega), ix_nI hkj, ix_nI hkn] at z; omega
                                have e : x = kn := by omega
                                subst e
                                simp only [s_copy, rj, hbp, hbq, ek_p, ek_q, ↓reduceIte]
                                rw [if_neg c3, if_neg c4, if_neg c2, ix_nI hki, ix_nI hkj, ix_nI hkn]
                                refine ⟨by first | exact trivial | exact rfl, ?_⟩
                                rw [hI]
                                first | exact Fm.rf | (rw [show 40 * k_p + ki + (x - x) = 40 * k_p + ki by omega, show 40 * k_q + kj + (x - x) = 40 * k_q + kj by omega]; exact Fm.rf)
                              · rw [nI_leI (by omega) (by omega)] at h229_27
                                refine v_aload_n (pc := 232) (i := 0) F dX10_copy_232 rfl rfl ?_
                                refine v_getR (pc := 233) (o := 12) F fX10_43 dX10_copy_233 rfl lm0 ?_
                                refine v_topR (y := 12) rfl ?_
                                refine v_bipush (pc := 236) (v := nI 40) F dX10_copy_236 (by decide) ?_
                                refine v_iload_n (pc := 238) (i := 2) F dX10_copy_238 rfl rfl ?_
                                refine v_imul (pc := 239) F dX10_copy_239 ?_
                                refine v_topE (pk_mul _ _) ?_
                                refine v_iload (pc := 240) (i := 4) F dX10_copy_240 rfl ?_
                                refine v_iadd (pc := 242) F dX10_copy_242 ?_
                                refine v_topE (nI_add _ _) ?_
                                refine v_iload (pc := 243) (i := 6) F dX10_copy_243 rfl ?_
                                refine v_iadd (pc := 245) F dX10_copy_245 ?_
                                refine v_topE (nI_add _ _) ?_
                                refine v_aload_n (pc := 246) (i := 0) F dX10_copy_246 rfl rfl ?_
                                refine v_getR (pc := 247) (o := 12) F fX10_43 dX10_copy_247 rfl lm0 ?_
                                refine v_topR (y := 12) rfl ?_
                                refine v_bipush (pc := 250) (v := nI 40) F dX10_copy_250 (by decide) ?_
                                refine v_iload_n (pc := 252) (i := 1) F dX10_copy_252 rfl rfl ?_
                                refine v_imul (pc := 253) F dX10_copy_253 ?_
                                refine v_topE (pk_mul _ _) ?_
                                refine v_iload_n (pc := 254) (i := 3) F dX10_copy_254 rfl rfl ?_
                                refine v_iadd (pc := 255) F dX10_copy_255 ?_
                                refine v_topE (nI_add _ _) ?_
                                refine v_iload (pc := 256) (i := 6) F dX10_copy_256 rfl ?_
                                refine v_iadd (pc := 258) F dX10_copy_258 ?_
                                refine v_topE (nI_add _ _) ?_
                                refine v_laldN (pc := 259) (k0 := 40 * k_p + ki + x) F dX10_copy_259 (lm10_19 lm0) (rfl) (by omega) (by decide) ?_
                                refine v_lastN (pc := 260) (k0 := 40 * k_q + kj + x) F dX10_copy_260 (lm10_19 lm0) (rfl) (by omega) (by decide) ?_
                                refine v_iinc (pc := 261) (i := 6) (v := nI (x + 1)) (lo' := [some (.ref _), some (.int _), some (.int _), some (.int _), some (.int _), some (.int _), some (.int _)]) F dX10_copy_261 rfl (j_inc _) rfl rfl ?_
                                refine v_goto (pc := 264) (tgt := 225) F dX10_copy_264 (by decide) ?_
                                refine ih (by omega) _ ?_
                                rw [hI]
                                exact cL_up (cL_o (by omega))
                            · rw [nI_leI (by omega) (by omega)] at hij
                              refine v_iload (pc := 173) (i := 5) F dX10_copy_173 rfl ?_
                              refine v_iconst (pc := 175) (v := nI 1) F dX10_copy_175 (by decide) ?_
                              refine v_isub (pc := 176) F dX10_copy_176 ?_
                              refine v_topE (y := (dX kn 0)) (dX_00) ?_
                              refine v_istore (pc := 177) (lo' := [some (.ref _), some (.int _), some (.int _), some (.int _), some (.int _), some (.int _), some (.int _)]) F dX10_copy_177 rfl (Nat.le_of_ble_eq_true rfl) rfl ?_
                              refine j_up kn (fun x => ∀ μ' : j_M, (μ' = j_cL μ 12 12 ((40 * k_p + ki) + (kn - x)) ((40 * k_q + kj) + (kn - x)) x) → V X _ 179 [some (.ref 0), some (.int (nI k_p)), some (.int (nI k_q)), some (.int (nI ki)), some (.int (nI kj)), some (.int (nI kn)), some (.int ((dX kn x)))] [] μ') (fun x hk ih μ' hI => ?_) 0 (Nat.zero_le _) μ (cL_0.symm)
                              refine v_iload (pc := 179) (i := 6) F dX10_copy_179 rfl ?_
                              rcases Nat.lt_or_ge x kn with hx2 | hx2
                              · skip
                                rw [dX_lt hx2]
                                refine v_if_lt (pc := 181) (tgt := 219) F dX10_copy_181 (by decide) (fun h181_28 => ?_) (fun h181_28 => ?_)
                                · rw [j_lt0 (by omega)] at h181_28
                                  exact h181_28.elim
                                · rw [j_lt0 (by omega)] at h181_28
                                  refine v_aload_n (pc := 184) (i := 0) F dX10_copy_184 rfl rfl ?_
                                  refine v_getR (pc := 185) (o := 12) F fX10_43 dX10_copy_185 rfl lm0 ?_
                                  refine v_topR (y := 12) rfl ?_
                                  refine v_bipush (pc := 188) (v := nI 40) F dX10_copy_188 (by decide) ?_
                                  refine v_iload_n (pc := 190) (i := 2) F dX10_copy_190 rfl rfl ?_
                                  refine v_imul (pc := 191) F dX10_copy_191 ?_
                                  refine v_topE (pk_mul _ _) ?_
                                  refine v_iload (pc := 192) (i := 4) F dX10_copy_192 rfl ?_
                                  refine v_iadd (pc := 194) F dX10_copy_194 ?_
                                  refine v_topE (nI_add _ _) ?_
                                  refine v_iload (pc := 195) (i := 6) F dX10_copy_195 rfl ?_
                                  refine v_iadd (pc := 197) F dX10_copy_197 ?_
                                  refine v_topE (nI_add _ _) ?_
                                  refine v_aload_n (pc := 198) (i := 0) F dX10_copy_198 rfl rfl ?_
                                  refine v_getR (pc := 199) (o := 12) F fX10_43 dX10_copy_199 rfl lm0 ?_
                                  refine v_topR (y := 12) rfl ?_
                                  refine v_bipush (pc := 202) (v := nI 40) F dX10_copy_202 (by decide) ?_
                                  refine v_iload_n (pc := 204) (i := 1) F dX10_copy_204 rfl rfl ?_
                                  refine v_imul (pc := 205) F dX10_copy_205 ?_
                                  refine v_topE (pk_mul _ _) ?_
                                  refine v_iload_n (pc := 206) (i := 3) F dX10_copy_206 rfl rfl ?_
                                  refine v_iadd (pc := 207) F dX10_copy_207 ?_
                                  refine v_topE (nI_add _ _) ?_
                                  refine v_iload (pc := 208) (i := 6) F dX10_copy_208 rfl ?_
                                  refine v_iadd (pc := 210) F dX10_copy_210 ?_
                                  refine v_topE (nI_add _ _) ?_
                                  refine v_laldN (pc := 211) (k0 := 40 * k_p + ki + (kn - 1 - x)) F dX10_copy_211 (lm10_19 lm0) (rfl) (by omega) (by decide) ?_
                                  refine v_lastN (pc := 212) (k0 := 40 * k_q + kj + (kn - 1 - x)) F dX10_copy_212 (lm10_19 lm0) (rfl) (by omega) (by decide) ?_
                                  refine v_iinc (pc := 213) (i := 6) (v := (dX kn (x + 1))) (lo' := [some (.ref _), some (.int _), some (.int _), some (.int _), some (.int _), some (.int _), some (.int _)]) F dX10_copy_213 rfl (dX_s hx2) rfl rfl ?_
                                  refine v_goto (pc := 216) (tgt := 179) F dX10_copy_216 (by decide) ?_
                                  refine ih (by omega) _ ?_
                                  rw [hI]
                                  have e1 : kn - x = kn - 1 - x + 1 := by omega
                                  have e2 : kn - (x + 1) = kn - 1 - x := by omega
                                  rw [e1, e2, ← Nat.add_assoc, ← Nat.add_assoc]
                                  exact cL_dn (cL_o (by omega))
                              · skip
                                rw [dX_ge hx2]
                                refine v_if_lt (pc := 181) (tgt := 219) F dX10_copy_181 (by decide) (fun h181_29 => ?_) (fun h181_29 => ?_)
                                · skip
                                  refine v_goto (pc := 219) (tgt := 267) F dX10_copy_219 (by decide) ?_
                                  refine v_iload (pc := 267) (i := 5) F dX10_copy_267 rfl ?_
                                  refine v_ireturn (pc := 269) F dX10_copy_269 (rfl) ?_
                                  have c2 : ¬ ((nI kn) < 0 ∨ (nI ki) < 0 ∨ (nI kj) < 0 ∨ ix (μ.1 11 k_p) < ix ((nI ki)) + ix ((nI kn)) ∨ ix (μ.1 11 k_q) < ix ((nI kj)) + ix ((nI kn))) := by
                                    rintro (z | z | z | z | z)
                                    · exact nI_pos hkn z
                                    · exact nI_pos hki z
                                    · exact nI_pos hkj z
                                    · rw [hmp, ix_nI (by omega), ix_nI hki, ix_nI hkn] at z; omega
                                    · rw [hmq, ix_nI (by omega), ix_nI hkj, ix_nI hkn] at z; omega
                                  have e : x = kn := by omega
                                  subst e
                                  simp only [s_copy, rj, hbp, hbq, ek_p, ek_q, ↓reduceIte]
                                  rw [if_neg c3, if_neg c4, if_neg c2, ix_nI hki, ix_nI hkj, ix_nI hkn]
                                  refine ⟨by first | exact trivial | exact rfl, ?_⟩
                                  rw [hI]
                                  first | exact Fm.rf | (rw [show 40 * k_p + ki + (x - x) = 40 * k_p + ki by omega, show 40 * k_q + kj + (x - x) = 40 * k_q + kj by omega]; exact Fm.rf)
                                · skip
                                  exact absurd h181_29 (by decide)
                        · rw [nI_l (by omega), nI_l (by omega), nI_l (by omega), lN_add, lc_le, pk_lLE (by omega) (by omega)] at hlq
                          refine v_aload_n (pc := 155) (i := 0) F dX10_copy_155 rfl rfl ?_
                          refine v_bipush (pc := 156) (v := (-2)) F dX10_copy_156 (by decide) ?_
                          refine v_callVI (pc := 158) (As := [_]) (rest := []) (c := 10) F mX10_no kX10_96 im_X10_no se_X10_no dX10_copy_158 rfl rfl (by decide) (c_X10_no (-2) 2 (by decide) (by decide) _) (by decide) rfl rfl (Nat.le_of_ble_eq_true rfl) lm0 (fun x30 μ30 hp30 => ?_)
                          rw [hp30.1, hp30.2]
                          refine v_ireturn (pc := 161) F dX10_copy_161 (rfl) ?_
                          have c2 : (nI kn) < 0 ∨ (nI ki) < 0 ∨ (nI kj) < 0 ∨ ix (μ.1 11 k_p) < ix ((nI ki)) + ix ((nI kn)) ∨ ix (μ.1 11 k_q) < ix ((nI kj)) + ix ((nI kn)) := by first | exact Or.inr (Or.inr (Or.inr (Or.inl (by rw [hmp, ix_nI (by omega), ix_nI hki, ix_nI hkn]; omega)))) | exact Or.inr (Or.inr (Or.inr (Or.inr (by rw [hmq, ix_nI (by omega), ix_nI hkj, ix_nI hkn]; omega))))
                          simp only [s_copy, rj, hbp, hbq, ek_p, ek_q, ↓reduceIte]
                          rw [if_neg c3, if_neg c4, if_pos c2]
                          refine ⟨?_, ?_⟩ <;> first | exact trivial | exact rfl | exact Fm.rf
              · skip
                refine v_aload_n (pc := 99) (i := 0) F dX10_copy_99 rfl rfl ?_
                refine v_bipush (pc := 100) (v := (-4)) F dX10_copy_100 (by decide) ?_
                refine v_callVI (pc := 102) (As := [_]) (rest := []) (c := 10) F mX10_no kX10_96 im_X10_no se_X10_no dX10_copy_102 rfl rfl (by decide) (c_X10_no (-4) 4 (by decide) (by decide) _) (by decide) rfl rfl (Nat.le_of_ble_eq_true rfl) lm0 (fun x31 μ31 hp31 => ?_)
                rw [hp31.1, hp31.2]
                refine v_ireturn (pc := 105) F dX10_copy_105 (rfl) ?_
                have c4 : μ.1 10 k_p < 0 ∨ μ.1 10 k_q < 0 := by first | exact Or.inl hp0 | exact Or.inr (Int32.not_le.mp hq0)
                simp only [s_copy, rj, hbp, hbq, ek_p, ek_q, ↓reduceIte]
                rw [if_neg c3, if_pos c4]
                refine ⟨?_, ?_⟩ <;> first | exact trivial | exact rfl | exact Fm.rf
          · rw [b2i_0] at hrP
            rw [Classical.not_not] at hrP
            refine v_aload_n (pc := 51) (i := 0) F dX10_copy_51 rfl rfl ?_
            refine v_iload_n (pc := 52) (i := 2) F dX10_copy_52 rfl rfl ?_
            refine v_callVI (pc := 53) (As := [_]) (rest := []) (c := 10) F mX10_isRow kX10_100 im_X10_isRow se_X10_isRow dX10_copy_53 rfl rfl (by decide) (c_X10_isRow k_q (by omega) _) (by decide) rfl rfl (Nat.le_of_ble_eq_true rfl) lm0 (fun x32 μ32 hp32 => ?_)
            rw [hp32.1, hp32.2]
            refine v_if_eq (pc := 56) (tgt := 81) F dX10_copy_56 (by decide) (fun hrQ => ?_) (fun hrQ => ?_)
            · rw [b2i_0] at hrQ
              have c3 : ¬ (nI 10 ≤ μ.1 10 k_p ∨ nI 10 ≤ μ.1 10 k_q ∨ (inQ 5 (μ.1 10 k_p) = true ∧ inQ 5 (μ.1 10 k_q) = true ∧ ¬ μ.1 10 k_p = μ.1 10 k_q)) := by
                rintro (z | z | ⟨z1, z2, z3⟩)
                · exact hP z
                · exact hQ z
                · first | exact hrP z1 | exact hrQ z2 | exact z3 heq
              refine v_aload_n (pc := 81) (i := 0) F dX10_copy_81 rfl rfl ?_
              refine v_getR (pc := 82) (o := 10) F fX10_37 dX10_copy_82 rfl lm0 ?_
              refine v_topR (y := 10) rfl ?_
              refine v_iload_n (pc := 85) (i := 1) F dX10_copy_85 rfl rfl ?_
              refine v_ialdN (pc := 86) (k0 := k_p) F dX10_copy_86 (lm10_17 lm0) (rfl) (by omega) (by decide) ?_
              refine v_if_lt (pc := 87) (tgt := 99) F dX10_copy_87 (by decide) (fun hp0 => ?_) (fun hp0 => ?_)
              · skip
                refine v_aload_n (pc := 99) (i := 0) F dX10_copy_99 rfl rfl ?_
                refine v_bipush (pc := 100) (v := (-4)) F dX10_copy_100 (by decide) ?_
                refine v_callVI (pc := 102) (As := [_]) (rest := []) (c := 10) F mX10_no kX10_96 im_X10_no se_X10_no dX10_copy_102 rfl rfl (by decide) (c_X10_no (-4) 4 (by decide) (by decide) _) (by decide) rfl rfl (Nat.le_of_ble_eq_true rfl) lm0 (fun x35 μ35 hp35 => ?_)
                rw [hp35.1, hp35.2]
                refine v_ireturn (pc := 105) F dX10_copy_105 (rfl) ?_
                have c4 : μ.1 10 k_p < 0 ∨ μ.1 10 k_q < 0 := by first | exact Or.inl hp0 | exact Or.inr (Int32.not_le.mp hq0)
                simp only [s_copy, rj, hbp, hbq, ek_p, ek_q, ↓reduceIte]
                rw [if_neg c3, if_pos c4]
                refine ⟨?_, ?_⟩ <;> first | exact trivial | exact rfl | exact Fm.rf
              · skip
                refine v_aload_n (pc := 90) (i := 0) F dX10_copy_90 rfl rfl ?_
                refine v_getR (pc := 91) (o := 10) F fX10_37 dX10_copy_91 rfl lm0 ?_
                refine v_topR (y := 10) rfl ?_
                refine v_iload_n (pc := 94) (i := 2) F dX10_copy_94 rfl rfl ?_
                refine v_ialdN (pc := 95) (k0 := k_q) F dX10_copy_95 (lm10_17 lm0) (rfl) (by omega) (by decide) ?_
                refine v_if_ge (pc := 96) (tgt := 106) F dX10_copy_96 (by decide) (fun hq0 => ?_) (fun hq0 => ?_)
                · skip
                  have c4 : ¬ (μ.1 10 k_p < 0 ∨ μ.1 10 k_q < 0) := by
                    rintro (z | z)
                    · exact hp0 z
                    · exact absurd z (Int32.not_lt.mpr hq0)
                  refine v_iload (pc := 106) (i := 5) F dX10_copy_106 rfl ?_
                  refine v_if_lt (pc := 108) (tgt := 155) F dX10_copy_108 (by decide) (fun hn0 => ?_) (fun hn0 => ?_)
                  · skip
                    refine v_aload_n (pc := 155) (i := 0) F dX10_copy_155 rfl rfl ?_
                    refine v_bipush (pc := 156) (v := (-2)) F dX10_copy_156 (by decide) ?_
                    refine v_callVI (pc := 158) (As := [_]) (rest := []) (c := 10) F mX10_no kX10_96 im_X10_no se_X10_no dX10_copy_158 rfl rfl (by decide) (c_X10_no (-2) 2 (by decide) (by decide) _) (by decide) rfl rfl (Nat.le_of_ble_eq_true rfl) lm0 (fun x38 μ38 hp38 => ?_)
                    rw [hp38.1, hp38.2]
                    refine v_ireturn (pc := 161) F dX10_copy_161 (rfl) ?_
                    have c2 : n_ < 0 ∨ i < 0 ∨ j < 0 ∨ ix (μ.1 11 k_p) < ix (i) + ix (n_) ∨ ix (μ.1 11 k_q) < ix (j) + ix (n_) := by first | exact Or.inl hn0 | exact Or.inr (Or.inl hi0) | exact Or.inr (Or.inr (Or.inl hj0))
                    simp only [s_copy, rj, hbp, hbq, ek_p, ek_q, ↓reduceIte]
                    rw [if_neg c3, if_neg c4, if_pos c2]
                    refine ⟨?_, ?_⟩ <;> first | exact trivial | exact rfl | exact Fm.rf
                  · skip
                    refine v_iload_n (pc := 111) (i := 3) F dX10_copy_111 rfl rfl ?_
                    refine v_if_lt (pc := 112) (tgt := 155) F dX10_copy_112 (by decide) (fun hi0 => ?_) (fun hi0 => ?_)
                    · skip
                      refine v_aload_n (pc := 155) (i := 0) F dX10_copy_155 rfl rfl ?_
                      refine v_bipush (pc := 156) (v := (-2)) F dX10_copy_156 (by decide) ?_
                      refine v_callVI (pc := 158) (As := [_]) (rest := []) (c := 10) F mX10_no kX10_96 im_X10_no se_X10_no dX10_copy_158 rfl rfl (by decide) (c_X10_no (-2) 2 (by decide) (by decide) _) (by decide) rfl rfl (Nat.le_of_ble_eq_true rfl) lm0 (fun x40 μ40 hp40 => ?_)
                      rw [hp40.1, hp40.2]
                      refine v_ireturn (pc := 161) F dX10_copy_161 (rfl) ?_
                      have c2 : n_ < 0 ∨ i < 0 ∨ j < 0 ∨ ix (μ.1 11 k_p) < ix (i) + ix (n_) ∨ ix (μ.1 11 k_q) < ix (j) + ix (n_) := by first | exact Or.inl hn0 | exact Or.inr (Or.inl hi0) | exact Or.inr (Or.inr (Or.inl hj0))
                      simp only [s_copy, rj, hbp, hbq, ek_p, ek_q, ↓reduceIte]
                      rw [if_neg c3, if_neg c4, if_pos c2]
                      refine ⟨?_, ?_⟩ <;> first | exact trivial | exact rfl | exact Fm.rf
                    · skip
                      refine v_iload (pc := 115) (i := 4) F dX10_copy_115 rfl ?_
                      refine v_if_lt (pc := 117) (tgt := 155) F dX10_copy_117 (by decide) (fun hj0 => ?_) (fun hj0 => ?_)
                      · skip
                        refine v_aload_n (pc := 155) (i := 0) F dX10_copy_155 rfl rfl ?_
                        refine v_bipush (pc := 156) (v := (-2)) F dX10_copy_156 (by decide) ?_
                        refine v_callVI (pc := 158) (As := [_]) (rest := []) (c := 10) F mX10_no kX10_96 im_X10_no se_X10_no dX10_copy_158 rfl rfl (by decide) (c_X10_no (-2) 2 (by decide) (by decide) _) (by decide) rfl rfl (Nat.le_of_ble_eq_true rfl) lm0 (fun x42 μ42 hp42 => ?_)
                        rw [hp42.1, hp42.2]
                        refine v_ireturn (pc := 161) F dX10_copy_161 (rfl) ?_
                        have c2 : n_ < 0 ∨ i < 0 ∨ j < 0 ∨ ix (μ.1 11 k_p) < ix (i) + ix (n_) ∨ ix (μ.1 11 k_q) < ix (j) + ix (n_) := by first | exact Or.inl hn0 | exact Or.inr (Or.inl hi0) | exact Or.inr (Or.inr (Or.inl hj0))
                        simp only [s_copy, rj, hbp, hbq, ek_p, ek_q, ↓reduceIte]
                        rw [if_neg c3, if_neg c4, if_pos c2]
                        refine ⟨?_, ?_⟩ <;> first | exact trivial | exact rfl | exact Fm.rf
                      · skip
                        obtain ⟨ki, hki, hie⟩ := nI_of hi0
                        obtain ⟨kj, hkj, hje⟩ := nI_of hj0
                        obtain ⟨kn, hkn, hne⟩ := nI_of hn0
                        subst hie hje hne
                        obtain ⟨mp, hmp40, hmp⟩ := SH_mid (hsh k_p (by omega)) hn8 hP hp0
                        obtain ⟨mq, hmq40, hmq⟩ := SH_mid (hsh k_q (by omega)) hn8 hQ (Int32.not_lt.mpr hq0)
                        refine v_iload_n (pc := 120) (i := 3) F dX10_copy_120 rfl rfl ?_
                        refine v_i2l (pc := 121) F dX10_copy_121 ?_
                        refine v_iload (pc := 122) (i := 5) F dX10_copy_122 rfl ?_
                        refine v_i2l (pc := 124) F dX10_copy_124 ?_
                        refine v_ladd (pc := 125) F dX10_copy_125 ?_
                        refine v_aload_n (pc := 126) (i := 0) F dX10_copy_126 rfl rfl ?_
                        refine v_getR (pc := 127) (o := 11) F fX10_40 dX10_copy_127 rfl lm0 ?_
                        refine v_topR (y := 11) rfl ?_
                        refine v_iload_n (pc := 130) (i := 1) F dX10_copy_130 rfl rfl ?_
                        refine v_ialdN (pc := 131) (k0 := k_p) F dX10_copy_131 (lm10_18 lm0) (rfl) (by omega) (by decide) ?_
                        refine v_topE (y := nI mp) (hmp) ?_
                        refine v_i2l (pc := 132) F dX10_copy_132 ?_
                        refine v_lcmp (pc := 133) F dX10_copy_133 ?_
                        refine v_if_gt (pc := 134) (tgt := 155) F dX10_copy_134 (by decide) (fun hlp => ?_) (fun hlp => ?_)
                        · rw [nI_l (by omega), nI_l (by omega), nI_l (by omega), lN_add, lc_gt, pk_lLT (by omega) (by omega)] at hlp
                          refine v_aload_n (pc := 155) (i := 0) F dX10_copy_155 rfl rfl ?_
                          refine v_bipush (pc := 156) (v := (-2)) F dX10_copy_156 (by decide) ?_
                          refine v_callVI (pc := 158) (As := [_]) (rest := []) (c := 10) F mX10_no kX10_96 im_X10_no se_X10_no dX10_copy_158 rfl rfl (by decide) (c_X10_no (-2) 2 (by decide) (by decide) _) (by decide) rfl rfl (Nat.le_of_ble_eq_true rfl) lm0 (fun x44 μ44 hp44 => ?_)
                          rw [hp44.1, hp44.2]
                          refine v_ireturn (pc := 161) F dX10_copy_161 (rfl) ?_
                          have c2 : (nI kn) < 0 ∨ (nI ki) < 0 ∨ (nI kj) < 0 ∨ ix (μ.1 11 k_p) < ix ((nI ki)) + ix ((nI kn)) ∨ ix (μ.1 11 k_q) < ix ((nI kj)) + ix ((nI kn)) := by first | exact Or.inr (Or.inr (Or.inr (Or.inl (by rw [hmp, ix_nI (by omega), ix_nI hki, ix_nI hkn]; omega)))) | exact Or.inr (Or.inr (Or.inr (Or.inr (by rw [hmq, ix_nI (by omega), ix_nI hkj, ix_nI hkn]; omega))))
                          simp only [s_copy, rj, hbp, hbq, ek_p, ek_q, ↓reduceIte]
                          rw [if_neg c3, if_neg c4, if_pos c2]
                          refine ⟨?_, ?_⟩ <;> first | exact trivial | exact rfl | exact Fm.rf
                        · rw [nI_l (by omega), nI_l (by omega), nI_l (by omega), lN_add, lc_gt, pk_lLT (by omega) (by omega)] at hlp
                          refine v_iload (pc := 137) (i := 4) F dX10_copy_137 rfl ?_
                          refine v_i2l (pc := 139) F dX10_copy_139 ?_
                          refine v_iload (pc := 140) (i := 5) F dX10_copy_140 rfl ?_
                          refine v_i2l (pc := 142) F dX10_copy_142 ?_
                          refine v_ladd (pc := 143) F dX10_copy_143 ?_
                          refine v_aload_n (pc := 144) (i := 0) F dX10_copy_144 rfl rfl ?_
                          refine v_getR (pc := 145) (o := 11) F fX10_40 dX10_copy_145 rfl lm0 ?_
                          refine v_topR (y := 11) rfl ?_
                          refine v_iload_n (pc := 148) (i := 2) F dX10_copy_148 rfl rfl ?_
                          refine v_ialdN (pc := 149) (k0 := k_q) F dX10_copy_149 (lm10_18 lm0) (rfl) (by omega) (by decide) ?_
                          refine v_topE (y := nI mq) (hmq) ?_
                          refine v_i2l (pc := 150) F dX10_copy_150 ?_
                          refine v_lcmp (pc := 151) F dX10_copy_151 ?_
                          refine v_if_le (pc := 152) (tgt := 162) F dX10_copy_152 (by decide) (fun hlq => ?_) (fun hlq => ?_)
                          · rw [nI_l (by omega), nI_l (by omega), nI_l (by omega), lN_add, lc_le, pk_lLE (by omega) (by omega)] at hlq
                            refine v_iload_n (pc := 162) (i := 1) F dX10_copy_162 rfl rfl ?_
                            refine v_iload_n (pc := 163) (i := 2) F dX10_copy_163 rfl rfl ?_
                            refine v_icmp_ne (pc := 164) (tgt := 222) F dX10_copy_164 (by decide) (fun hpq => ?_) (fun hpq => ?_)
                            · rw [nI_eq (by omega) (by omega)] at hpq
                              refine v_iconst (pc := 222) (v := nI 0) F dX10_copy_222 (by decide) ?_
                              refine v_istore (pc := 223) (lo' := [some (.ref _), some (.int _), some (.int _), some (.int _), some (.int _), some (.int _), some (.int _)]) F dX10_copy_223 rfl (Nat.le_of_ble_eq_true rfl) rfl ?_
                              refine j_up kn (fun x => ∀ μ' : j_M, (μ' = j_cL μ 12 12 (40 * k_p + ki) (40 * k_q + kj) x) → V X _ 225 [some (.ref 0), some (.int (nI k_p)), some (.int (nI k_q)), some (.int (nI ki)), some (.int (nI kj)), some (.int (nI kn)), some (.int (nI x))] [] μ') (fun x hk ih μ' hI => ?_) 0 (Nat.zero_le _) μ (cL_0.symm)
                              refine v_iload (pc := 225) (i := 6) F dX10_copy_225 rfl ?_
                              refine v_iload (pc := 227) (i := 5) F dX10_copy_227 rfl ?_
                              refine v_icmp_ge (pc := 229) (tgt := 267) F dX10_copy_229 (by decide) (fun h229_47 => ?_) (fun h229_47 => ?_)
                              · rw [nI_leI (by omega) (by omega)] at h229_47
                                refine v_iload (pc := 267) (i := 5) F dX10_copy_267 rfl ?_
                                refine v_ireturn (pc := 269) F dX10_copy_269 (rfl) ?_
                                have c2 : ¬ ((nI kn) < 0 ∨ (nI ki) < 0 ∨ (nI kj) < 0 ∨ ix (μ.1 11 k_p) < ix ((nI ki)) + ix ((nI kn)) ∨ ix (μ.1 11 k_q) < ix ((nI kj)) + ix ((nI kn))) := by
                                  rintro (z | z | z | z | z)
                                  · exact nI_pos hkn z
                                  · exact nI_pos hki z
                                  · exact nI_pos hkj z
                                  · rw [hmp, ix_nI (by omega), ix_nI hki, ix_nI hkn] at z; omega
                                  · rw [hmq, ix_nI (by omega), ix_nI hkj, ix_nI hkn] at z; omega
                                have e : x = kn := by omega
                                subst e
                                simp only [s_copy, rj, hbp, hbq, ek_p, ek_q, ↓reduceIte]
                                rw [if_neg c3, if_neg c4, if_neg c2, ix_nI hki, ix_nI hkj, ix_nI hkn]
                                refine ⟨by first | exact trivial | exact rfl, ?_⟩
                                rw [hI]
                                first | exact Fm.rf | (rw [show 40 * k_p + ki + (x - x) = 40 * k_p + ki by omega, show 40 * k_q + kj + (x - x) = 40 * k_q + kj by omega]; exact Fm.rf)
                              · rw [nI_leI (by omega) (by omega)] at h229_47
                                refine v_aload_n (pc := 232) (i := 0) F dX10_copy_232 rfl rfl ?_
                                refine v_getR (pc := 233) (o := 12) F fX10_43 dX10_copy_233 rfl lm0 ?_
                                refine v_topR (y := 12) rfl ?_
                                refine v_bipush (pc := 236) (v := nI 40) F dX10_copy_236 (by decide) ?_
                                refine v_iload_n (pc := 238) (i := 2) F dX10_copy_238 rfl rfl ?_
                                refine v_imul (pc := 239) F dX10_copy_239 ?_
                                refine v_topE (pk_mul _ _) ?_
                                refine v_iload (pc := 240) (i := 4) F dX10_copy_240 rfl ?_
                                refine v_iadd (pc := 242) F dX10_copy_242 ?_
                                refine v_topE (nI_add _ _) ?_
                                refine v_iload (pc := 243) (i := 6) F dX10_copy_243 rfl ?_
                                refine v_iadd (pc := 245) F dX10_copy_245 ?_
                                refine v_topE (nI_add _ _) ?_
                                refine v_aload_n (pc := 246) (i := 0) F dX10_copy_246 rfl rfl ?_
                                refine v_getR (pc := 247) (o := 12) F fX10_43 dX10_copy_247 rfl lm0 ?_
                                refine v_topR (y := 12) rfl ?_
                                refine v_bipush (pc := 250) (v := nI 40) F dX10_copy_250 (by decide) ?_
                                refine v_iload_n (pc := 252) (i := 1) F dX10_copy_252 rfl rfl ?_
                                refine v_imul (pc := 253) F dX10_copy_253 ?_
                                refine v_topE (pk_mul _ _) ?_
                                refine v_iload_n (pc := 254) (i := 3) F dX10_copy_254 rfl rfl ?_
                                refine v_iadd (pc := 255) F dX10_copy_255 ?_
                                refine v_topE (nI_add _ _) ?_
                                refine v_iload (pc := 256) (i := 6) F dX10_copy_256 rfl ?_
                                refine v_iadd (pc := 258) F dX10_copy_258 ?_
                                refine v_topE (nI_add _ _) ?_
                                refine v_laldN (pc := 259) (k0 := 40 * k_p + ki + x) F dX10_copy_259 (lm10_19 lm0) (rfl) (by omega) (by decide) ?_
                                refine v_lastN (pc := 260) (k0 := 40 * k_q + kj + x) F dX10_copy_260 (lm10_19 lm0) (rfl) (by omega) (by decide) ?_
                                refine v_iinc (pc := 261) (i := 6) (v := nI (x + 1)) (lo' := [some (.ref _), some (.int _), some (.int _), some (.int _), some (.int _), some (.int _), some (.int _)]) F dX10_copy_261 rfl (j_inc _) rfl rfl ?_
                                refine v_goto (pc := 264) (tgt := 225) F dX10_copy_264 (by decide) ?_
                                refine ih (by omega) _ ?_
                                rw [hI]
                                exact cL_up (cL_o (by omega))
                            · rw [nI_eq (by omega) (by omega)] at hpq
                              refine v_iload_n (pc := 167) (i := 3) F dX10_copy_167 rfl rfl ?_
                              refine v_iload (pc := 168) (i := 4) F dX10_copy_168 rfl ?_
                              refine v_icmp_ge (pc := 170) (tgt := 222) F dX10_copy_170 (by decide) (fun hij => ?_) (fun hij => ?_)
                              · rw [nI_leI (by omega) (by omega)] at hij
                                refine v_iconst (pc := 222) (v := nI 0) F dX10_copy_222 (by decide) ?_
                                refine v_istore (pc := 223) (lo' := [some (.ref _), some (.int _), some (.int _), some (.int _), some (.int _), some (.int _), some (.int _)]) F dX10_copy_223 rfl (Nat.le_of_ble_eq_true rfl) rfl ?_
                                refine j_up kn (fun x => ∀ μ' : j_M, (μ' = j_cL μ 12 12 (40 * k_p + ki) (40 * k_q + kj) x) → V X _ 225 [some (.ref 0), some (.int (nI k_p)), some (.int (nI k_q)), some (.int (nI ki)), some (.int (nI kj)), some (.int (nI kn)), some (.int (nI x))] [] μ') (fun x hk ih μ' hI => ?_) 0 (Nat.zero_le _) μ (cL_0.symm)
                                refine v_iload (pc := 225) (i := 6) F dX10_copy_225 rfl ?_
                                refine v_iload (pc := 227) (i := 5) F dX10_copy_227 rfl ?_
                                refine v_icmp_ge (pc := 229) (tgt := 267) F dX10_copy_229 (by decide) (fun h229_49 => ?_) (fun h229_49 => ?_)
                                · rw [nI_leI (by omega) (by omega)] at h229_49
                                  refine v_iload (pc := 267) (i := 5) F dX10_copy_267 rfl ?_
                                  refine v_ireturn (pc := 269) F dX10_copy_269 (rfl) ?_
                                  have c2 : ¬ ((nI kn) < 0 ∨ (nI ki) < 0 ∨ (nI kj) < 0 ∨ ix (μ.1 11 k_p) < ix ((nI ki)) + ix ((nI kn)) ∨ ix (μ.1 11 k_q) < ix ((nI kj)) + ix ((nI kn))) := by
                                    rintro (z | z | z | z | z)
                                    · exact nI_pos hkn z
                                    · exact nI_pos hki z
                                    · exact nI_pos hkj z
                                    · rw [hmp, ix_nI (by omega), ix_nI hki, ix_nI hkn] at z; omega
                                    · rw [hmq, ix_nI (by omega), ix_nI hkj, ix_nI hkn] at z; omega
                                  have e : x = kn := by omega
                                  subst e
                                  simp only [s_copy, rj, hbp, hbq, ek_p, ek_q, ↓reduceIte]
                                  rw [if_neg c3, if_neg c4, if_neg c2, ix_nI hki, ix_nI hkj, ix_nI hkn]
                                  refine ⟨by first | exact trivial | exact rfl, ?_⟩
                                  rw [hI]
                                  first | exact Fm.rf | (rw [show 40 * k_p + ki + (x - x) = 40 * k_p + ki by omega, show 40 * k_q + kj + (x - x) = 40 * k_q + kj by omega]; exact Fm.rf)
                                · rw [nI_leI (by omega) (by omega)] at h229_49
                                  refine v_aload_n (pc := 232) (i := 0) F dX10_copy_232 rfl rfl ?_
                                  refine v_getR (pc := 233) (o := 12) F fX10_43 dX10_copy_233 rfl lm0 ?_
                                  refine v_topR (y := 12) rfl ?_
                                  refine v_bipush (pc := 236) (v := nI 40) F dX10_copy_236 (by decide) ?_
                                  refine v_iload_n (pc := 238) (i := 2) F dX10_copy_238 rfl rfl ?_
                                  refine v_imul (pc := 239) F dX10_copy_239 ?_
                                  refine v_topE (pk_mul _ _) ?_
                                  refine v_iload (pc := 240) (i := 4) F dX10_copy_240 rfl ?_
                                  refine v_iadd (pc := 242) F dX10_copy_242 ?_
                                  refine v_topE (nI_add _ _) ?_
                                  refine v_iload (pc := 243) (i := 6) F dX10_copy_243 rfl ?_
                                  refine v_iadd (pc := 245) F dX10_copy_245 ?_
                                  refine v_topE (nI_add _ _) ?_
                                  refine v_aload_n (pc := 246) (i := 0) F dX10_copy_246 rfl rfl ?_
                                  refine v_getR (pc := 247) (o := 12) F fX10_43 dX10_copy_247 rfl lm0 ?_
                                  refine v_topR (y := 12) rfl ?_
                                  refine v_bipush (pc := 250) (v := nI 40) F dX10_copy_250 (by decide) ?_
                                  refine v_iload_n (pc := 252) (i := 1) F dX10_copy_252 rfl rfl ?_
                                  refine v_imul (pc := 253) F dX10_copy_253 ?_
                                  refine v_topE (pk_mul _ _) ?_
                                  refine v_iload_n (pc := 254) (i := 3) F dX10_copy_254 rfl rfl ?_
                                  refine v_iadd (pc := 255) F dX10_copy_255 ?_
                                  refine v_topE (nI_add _ _) ?_
                                  refine v_iload (pc := 256) (i := 6) F dX10_copy_256 rfl ?_
                                  refine v_iadd (pc := 258) F dX10_copy_258 ?_
                                  refine v_topE (nI_add _ _) ?_
                                  refine v_laldN (pc := 259) (k0 := 40 * k_p + ki + x) F dX10_copy_259 (lm10_19 lm0) (rfl) (by omega) (by decide) ?_
                                  refine v_lastN (pc := 260) (k0 := 40 * k_q + kj + x) F dX10_copy_260 (lm10_19 lm0) (rfl) (by omega) (by decide) ?_
                                  refine v_iinc (pc := 261) (i := 6) (v := nI (x + 1)) (lo' := [some (.ref _), some (.int _), some (.int _), some (.int _), some (.int _), some (.int _), some (.int _)]) F dX10_copy_261 rfl (j_inc _) rfl rfl ?_
                                  refine v_goto (pc := 264) (tgt := 225) F dX10_copy_264 (by decide) ?_
                                  refine ih (by omega) _ ?_
                                  rw [hI]
                                  exact cL_up (cL_o (by omega))
                              · rw [nI_leI (by omega) (by omega)] at hij
                                refine v_iload (pc := 173) (i := 5) F dX10_copy_173 rfl ?_
                                refine v_iconst (pc := 175) (v := nI 1) F dX10_copy_175 (by decide) ?_
                                refine v_isub (pc := 176) F dX10_copy_176 ?_
                                refine v_topE (y := (dX kn 0)) (dX_00) ?_
                                refine v_istore (pc := 177) (lo' := [some (.ref _), some (.int _), some (.int _), some (.int _), some (.int _), some (.int _), some (.int _)]) F dX10_copy_177 rfl (Nat.le_of_ble_eq_true rfl) rfl ?_
                                refine j_up kn (fun x => ∀ μ' : j_M, (μ' = j_cL μ 12 12 ((40 * k_p + ki) + (kn - x)) ((40 * k_q + kj) + (kn - x)) x) → V X _ 179 [some (.ref 0), some (.int (nI k_p)), some (.int (nI k_q)), some (.int (nI ki)), some (.int (nI kj)), some (.int (nI kn)), some (.int ((dX kn x)))] [] μ') (fun x hk ih μ' hI => ?_) 0 (Nat.zero_le _) μ (cL_0.symm)
                                refine v_iload (pc := 179) (i := 6) F dX10_copy_179 rfl ?_
                                rcases Nat.lt_or_ge x kn with hx2 | hx2
                                · skip
                                  rw [dX_lt hx2]
                                  refine v_if_lt (pc := 181) (tgt := 219) F dX10_copy_181 (by decide) (fun h181_50 => ?_) (fun h181_50 => ?_)
                                  · rw [j_lt0 (by omega)] at h181_50
                                    exact h181_50.elim
                                  · rw [j_lt0 (by omega)] at h181_50
                                    refine v_aload_n (pc := 184) (i := 0) F dX10_copy_184 rfl rfl ?_
                                    refine v_getR (pc := 185) (o := 12) F fX10_43 dX10_copy_185 rfl lm0 ?_
                                    refine v_topR (y := 12) rfl ?_
                                    refine v_bipush (pc := 188) (v := nI 40) F dX10_copy_188 (by decide) ?_
                                    refine v_iload_n (pc := 190) (i := 2) F dX10_copy_190 rfl rfl ?_
                                    refine v_imul (pc := 191) F dX10_copy_191 ?_
                                    refine v_topE (pk_mul _ _) ?_
                                    refine v_iload (pc := 192) (i := 4) F dX10_copy_192 rfl ?_
                                    refine v_iadd (pc := 194) F dX10_copy_194 ?_
                                    refine v_topE (nI_add _ _) ?_
                                    refine v_iload (pc := 195) (i := 6) F dX10_copy_195 rfl ?_
                                    refine v_iadd (pc := 197) F dX10_copy_197 ?_
                                    refine v_topE (nI_add _ _) ?_
                                    refine v_aload_n (pc := 198) (i := 0) F dX10_copy_198 rfl rfl ?_
                                    refine v_getR (pc := 199) (o := 12) F fX10_43 dX10_copy_199 rfl lm0 ?_
                                    refine v_topR (y := 12) rfl ?_
                                    refine v_bipush (pc := 202) (v := nI 40) F dX10_copy_202 (by decide) ?_
                                    refine v_iload_n (pc := 204) (i := 1) F dX10_copy_204 rfl rfl ?_
                                    refine v_imul (pc := 205) F dX10_copy_205 ?_
                                    refine v_topE (pk_mul _ _) ?_
                                    refine v_iload_n (pc := 206) (i := 3) F dX10_copy_206 rfl rfl ?_
                                    refine v_iadd (pc := 207) F dX10_copy_207 ?_
                                    refine v_topE (nI_add _ _) ?_
                                    refine v_iload (pc := 208) (i := 6) F dX10_copy_208 rfl ?_
                                    refine v_iadd (pc := 210) F dX10_copy_210 ?_
                                    refine v_topE (nI_add _ _) ?_
                                    refine v_laldN (pc := 211) (k0 := 40 * k_p + ki + (kn - 1 - x)) F dX10_copy_211 (lm10_19 lm0) (rfl) (by omega) (by decide) ?_
                                    refine v_lastN (pc := 212) (k0 := 40 * k_q + kj + (kn - 1 - x)) F dX10_copy_212 (lm10_19 lm0) (rfl) (by omega) (by decide) ?_
                                    refine v_iinc (pc := 213) (i := 6) (v := (dX kn (x + 1))) (lo' := [some (.ref _), some (.int _), some (.int _), some (.int _), some (.int _), some (.int _), some (.int _)]) F dX10_copy_213 rfl (dX_s hx2) rfl rfl ?_
                                    refine v_goto (pc := 216) (tgt := 179) F dX10_copy_216 (by decide) ?_
                                    refine ih (by omega) _ ?_
                                    rw [hI]
                                    have e1 : kn - x = kn - 1 - x + 1 := by omega
                                    have e2 : kn - (x + 1) = kn - 1 - x := by omega
                                    rw [e1, e2, ← Nat.add_assoc, ← Nat.add_assoc]
                                    exact cL_dn (cL_o (by omega))
                                · skip
                                  rw [dX_ge hx2]
                                  refine v_if_lt (pc := 181) (tgt := 219) F dX10_copy_181 (by decide) (fun h181_51 => ?_) (fun h181_51 => ?_)
                                  · skip
                                    refine v_goto (pc := 219) (tgt := 267) F dX10_copy_219 (by decide) ?_
                                    refine v_iload (pc := 267) (i := 5) F dX10_copy_267 rfl ?_
                                    refine v_ireturn (pc := 269) F dX10_copy_269 (rfl) ?_
                                    have c2 : ¬ ((nI kn) < 0 ∨ (nI ki) < 0 ∨ (nI kj) < 0 ∨ ix (μ.1 11 k_p) < ix ((nI ki)) + ix ((nI kn)) ∨ ix (μ.1 11 k_q) < ix ((nI kj)) + ix ((nI kn))) := by
                                      rintro (z | z | z | z | z)
                                      · exact nI_pos hkn z
                                      · exact nI_pos hki z
                                      · exact nI_pos hkj z
                                      · rw [hmp, ix_nI (by omega), ix_nI hki, ix_nI hkn] at z; omega
                                      · rw [hmq, ix_nI (by omega), ix_nI hkj, ix_nI hkn] at z; omega
                                    have e : x = kn := by omega
                                    subst e
                                    simp only [s_copy, rj, hbp, hbq, ek_p, ek_q, ↓reduceIte]
                                    rw [if_neg c3, if_neg c4, if_neg c2, ix_nI hki, ix_nI hkj, ix_nI hkn]
                                    refine ⟨by first | exact trivial | exact rfl, ?_⟩
                                    rw [hI]
                                    first | exact Fm.rf | (rw [show 40 * k_p + ki + (x - x) = 40 * k_p + ki by omega, show 40 * k_q + kj + (x - x) = 40 * k_q + kj by omega]; exact Fm.rf)
                                  · skip
                                    exact absurd h181_51 (by decide)
                          · rw [nI_l (by omega), nI_l (by omega), nI_l (by omega), lN_add, lc_le, pk_lLE (by omega) (by omega)] at hlq
                            refine v_aload_n (pc := 155) (i := 0) F dX10_copy_155 rfl rfl ?_
                            refine v_bipush (pc := 156) (v := (-2)) F dX10_copy_156 (by decide) ?_
                            refine v_callVI (pc := 158) (As := [_]) (rest := []) (c := 10) F mX10_no kX10_96 im_X10_no se_X10_no dX10_copy_158 rfl rfl (by decide) (c_X10_no (-2) 2 (by decide) (by decide) _) (by decide) rfl rfl (Nat.le_of_ble_eq_true rfl) lm0 (fun x52 μ52 hp52 => ?_)
                            rw [hp52.1, hp52.2]
                            refine v_ireturn (pc := 161) F dX10_copy_161 (rfl) ?_
                            have c2 : (nI kn) < 0 ∨ (nI ki) < 0 ∨ (nI kj) < 0 ∨ ix (μ.1 11 k_p) < ix ((nI ki)) + ix ((nI kn)) ∨ ix (μ.1 11 k_q) < ix ((nI kj)) + ix ((nI kn)) := by first | exact Or.inr (Or.inr (Or.inr (Or.inl (by rw [hmp, ix_nI (by omega), ix_nI hki, ix_nI hkn]; omega)))) | exact Or.inr (Or.inr (Or.inr (Or.inr (by rw [hmq, ix_nI (by omega), ix_nI hkj, ix_nI hkn]; omega))))
                            simp only [s_copy, rj, hbp, hbq, ek_p, ek_q, ↓reduceIte]
                            rw [if_neg c3, if_neg c4, if_pos c2]
                            refine ⟨?_, ?_⟩ <;> first | exact trivial | exact rfl | exact Fm.rf
                · skip
                  refine v_aload_n (pc := 99) (i := 0) F dX10_copy_99 rfl rfl ?_
                  refine v_bipush (pc := 100) (v := (-4)) F dX10_copy_100 (by decide) ?_
                  refine v_callVI (pc := 102) (As := [_]) (rest := []) (c := 10) F mX10_no kX10_96 im_X10_no se_X10_no dX10_copy_102 rfl rfl (by decide) (c_X10_no (-4) 4 (by decide) (by decide) _) (by decide) rfl rfl (Nat.le_of_ble_eq_true rfl) lm0 (fun x53 μ53 hp53 => ?_)
                  rw [hp53.1, hp53.2]
                  refine v_ireturn (pc := 105) F dX10_copy_105 (rfl) ?_
                  have c4 : μ.1 10 k_p < 0 ∨ μ.1 10 k_q < 0 := by first | exact Or.inl hp0 | exact Or.inr (Int32.not_le.mp hq0)
                  simp only [s_copy, rj, hbp, hbq, ek_p, ek_q, ↓reduceIte]
                  rw [if_neg c3, if_pos c4]
                  refine ⟨?_, ?_⟩ <;> first | exact trivial | exact rfl | exact Fm.rf
            · rw [b2i_0] at hrQ
              rw [Classical.not_not] at hrQ
              refine v_aload_n (pc := 59) (i := 0) F dX10_copy_59 rfl rfl ?_
              refine v_getR (pc := 60) (o := 10) F fX10_37 dX10_copy_60 rfl lm0 ?_
              refine v_topR (y := 10) rfl ?_
              refine v_iload_n (pc := 63) (i := 1) F dX10_copy_63 rfl rfl ?_
              refine v_ialdN (pc := 64) (k0 := k_p) F dX10_copy_64 (lm10_17 lm0) (rfl) (by omega) (by decide) ?_
              refine v_aload_n (pc := 65) (i := 0) F dX10_copy_65 rfl rfl ?_
              refine v_getR (pc := 66) (o := 10) F fX10_37 dX10_copy_66 rfl lm0 ?_
              refine v_topR (y := 10) rfl ?_
              refine v_iload_n (pc := 69) (i := 2) F dX10_copy_69 rfl rfl ?_
              refine v_ialdN (pc := 70) (k0 := k_q) F dX10_copy_70 (lm10_17 lm0) (rfl) (by omega) (by decide) ?_
              refine v_icmp_eq (pc := 71) (tgt := 81) F dX10_copy_71 (by decide) (fun heq => ?_) (fun heq => ?_)
              · skip
                have c3 : ¬ (nI 10 ≤ μ.1 10 k_p ∨ nI 10 ≤ μ.1 10 k_q ∨ (inQ 5 (μ.1 10 k_p) = true ∧ inQ 5 (μ.1 10 k_q) = true ∧ ¬ μ.1 10 k_p = μ.1 10 k_q)) := by
                  rintro (z | z | ⟨z1, z2, z3⟩)
                  · exact hP z
                  · exact hQ z
                  · first | exact hrP z1 | exact hrQ z2 | exact z3 heq
                refine v_aload_n (pc := 81) (i := 0) F dX10_copy_81 rfl rfl ?_
                refine v_getR (pc := 82) (o := 10) F fX10_37 dX10_copy_82 rfl lm0 ?_
                refine v_topR (y := 10) rfl ?_
                refine v_iload_n (pc := 85) (i := 1) F dX10_copy_85 rfl rfl ?_
                refine v_ialdN (pc := 86) (k0 := k_p) F dX10_copy_86 (lm10_17 lm0) (rfl) (by omega) (by decide) ?_
                refine v_if_lt (pc := 87) (tgt := 99) F dX10_copy_87 (by decide) (fun hp0 => ?_) (fun hp0 => ?_)
                · skip
                  refine v_aload_n (pc := 99) (i := 0) F dX10_copy_99 rfl rfl ?_
                  refine v_bipush (pc := 100) (v := (-4)) F dX10_copy_100 (by decide) ?_
                  refine v_callVI (pc := 102) (As := [_]) (rest := []) (c := 10) F mX10_no kX10_96 im_X10_no se_X10_no dX10_copy_102 rfl rfl (by decide) (c_X10_no (-4) 4 (by decide) (by decide) _) (by decide) rfl rfl (Nat.le_of_ble_eq_true rfl) lm0 (fun x56 μ56 hp56 => ?_)
                  rw [hp56.1, hp56.2]
                  refine v_ireturn (pc := 105) F dX10_copy_105 (rfl) ?_
                  have c4 : μ.1 10 k_p < 0 ∨ μ.1 10 k_q < 0 := by first | exact Or.inl hp0 | exact Or.inr (Int32.not_le.mp hq0)
                  simp only [s_copy, rj, hbp, hbq, ek_p, ek_q, ↓reduceIte]
                  rw [if_neg c3, if_pos c4]
                  refine ⟨?_, ?_⟩ <;> first | exact trivial | exact rfl | exact Fm.rf
                · skip
                  refine v_aload_n (pc := 90) (i := 0) F dX10_copy_90 rfl rfl ?_
                  refine v_getR (pc := 91) (o := 10) F fX10_37 dX10_copy_91 rfl lm0 ?_
                  refine v_topR (y := 10) rfl ?_
                  refine v_iload_n (pc := 94) (i := 2) F dX10_copy_94 rfl rfl ?_
                  refine v_ialdN (pc := 95) (k0 := k_q) F dX10_copy_95 (lm10_17 lm0) (rfl) (by omega) (by decide) ?_
                  refine v_if_ge (pc := 96) (tgt := 106) F dX10_copy_96 (by decide) (fun hq0 => ?_) (fun hq0 => ?_)
                  · skip
                    have c4 : ¬ (μ.1 10 k_p < 0 ∨ μ.1 10 k_q < 0) := by
                      rintro (z | z)
                      · exact hp0 z
                      · exact absurd z (Int32.not_lt.mpr hq0)
                    refine v_iload (pc := 106) (i := 5) F dX10_copy_106 rfl ?_
                    refine v_if_lt (pc := 108) (tgt := 155) F dX10_copy_108 (by decide) (fun hn0 => ?_) (fun hn0 => ?_)
                    · skip
                      refine v_aload_n (pc := 155) (i := 0) F dX10_copy_155 rfl rfl ?_
                      refine v_bipush (pc := 156) (v := (-2)) F dX10_copy_156 (by decide) ?_
                      refine v_callVI (pc := 158) (As := [_]) (rest := []) (c := 10) F mX10_no kX10_96 im_X10_no se_X10_no dX10_copy_158 rfl rfl (by decide) (c_X10_no (-2) 2 (by decide) (by decide) _) (by decide) rfl rfl (Nat.le_of_ble_eq_true rfl) lm0 (fun x59 μ59 hp59 => ?_)
                      rw [hp59.1, hp59.2]
                      refine v_ireturn (pc := 161) F dX10_copy_161 (rfl) ?_
                      have c2 : n_ < 0 ∨ i < 0 ∨ j < 0 ∨ ix (μ.1 11 k_p) < ix (i) + ix (n_) ∨ ix (μ.1 11 k_q) < ix (j) + ix (n_) := by first | exact Or.inl hn0 | exact Or.inr (Or.inl hi0) | exact Or.inr (Or.inr (Or.inl hj0))
                      simp only [s_copy, rj, hbp, hbq, ek_p, ek_q, ↓reduceIte]
                      rw [if_neg c3, if_neg c4, if_pos c2]
                      refine ⟨?_, ?_⟩ <;> first | exact trivial | exact rfl | exact Fm.rf
                    · skip
                      refine v_iload_n (pc := 111) (i := 3) F dX10_copy_111 rfl rfl ?_
                      refine v_if_lt (pc := 112) (tgt := 155) F dX10_copy_112 (by decide) (fun hi0 => ?_) (fun hi0 => ?_)
                      · skip
                        refine v_aload_n (pc := 155) (i := 0) F dX10_copy_155 rfl rfl ?_
                        refine v_bipush (pc := 156) (v := (-2)) F dX10_copy_156 (by decide) ?_
                        refine v_callVI (pc := 158) (As := [_]) (rest := []) (c := 10) F mX10_no kX10_96 im_X10_no se_X10_no dX10_copy_158 rfl rfl (by decide) (c_X10_no (-2) 2 (by decide) (by decide) _) (by decide) rfl rfl (Nat.le_of_ble_eq_true rfl) lm0 (fun x61 μ61 hp61 => ?_)
                        rw [hp61.1, hp61.2]
                        refine v_ireturn (pc := 161) F dX10_copy_161 (rfl) ?_
                        have c2 : n_ < 0 ∨ i < 0 ∨ j < 0 ∨ ix (μ.1 11 k_p) < ix (i) + ix (n_) ∨ ix (μ.1 11 k_q) < ix (j) + ix (n_) := by first | exact Or.inl hn0 | exact Or.inr (Or.inl hi0) | exact Or.inr (Or.inr (Or.inl hj0))
                        simp only [s_copy, rj, hbp, hbq, ek_p, ek_q, ↓reduceIte]
                        rw [if_neg c3, if_neg c4, if_pos c2]
                        refine ⟨?_, ?_⟩ <;> first | exact trivial | exact rfl | exact Fm.rf
                      · skip
                        refine v_iload (pc := 115) (i := 4) F dX10_copy_115 rfl ?_
                        refine v_if_lt (pc := 117) (tgt := 155) F dX10_copy_117 (by decide) (fun hj0 => ?_) (fun hj0 => ?_)
                        · skip
                          refine v_aload_n (pc := 155) (i := 0) F dX10_copy_155 rfl rfl ?_
                          refine v_bipush (pc := 156) (v := (-2)) F dX10_copy_156 (by decide) ?_
                          refine v_callVI (pc := 158) (As := [_]) (rest := []) (c := 10) F mX10_no kX10_96 im_X10_no se_X10_no dX10_copy_158 rfl rfl (by decide) (c_X10_no (-2) 2 (by decide) (by decide) _) (by decide) rfl rfl (Nat.le_of_ble_eq_true rfl) lm0 (fun x63 μ63 hp63 => ?_)
                          rw [hp63.1, hp63.2]
                          refine v_ireturn (pc := 161) F dX10_copy_161 (rfl) ?_
                          have c2 : n_ < 0 ∨ i < 0 ∨ j < 0 ∨ ix (μ.1 11 k_p) < ix (i) + ix (n_) ∨ ix (μ.1 11 k_q) < ix (j) + ix (n_) := by first | exact Or.inl hn0 | exact Or.inr (Or.inl hi0) | exact Or.inr (Or.inr (Or.inl hj0))
                          simp only [s_copy, rj, hbp, hbq, ek_p, ek_q, ↓reduceIte]
                          rw [if_neg c3, if_neg c4, if_pos c2]
                          refine ⟨?_, ?_⟩ <;> first | exact trivial | exact rfl | exact Fm.rf
                        · skip
                          obtain ⟨ki, hki, hie⟩ := nI_of hi0
                          obtain ⟨kj, hkj, hje⟩ := nI_of hj0
                          obtain ⟨kn, hkn, hne⟩ := nI_of hn0
                          subst hie hje hne
                          obtain ⟨mp, hmp40, hmp⟩ := SH_mid (hsh k_p (by omega)) hn8 hP hp0
                          obtain ⟨mq, hmq40, hmq⟩ := SH_mid (hsh k_q (by omega)) hn8 hQ (Int32.not_lt.mpr hq0)
                          refine v_iload_n (pc := 120) (i := 3) F dX10_copy_120 rfl rfl ?_
                          refine v_i2l (pc := 121) F dX10_copy_121 ?_
                          refine v_iload (pc := 122) (i := 5) F dX10_copy_122 rfl ?_
                          refine v_i2l (pc := 124) F dX10_copy_124 ?_
                          refine v_ladd (pc := 125) F dX10_copy_125 ?_
                          refine v_aload_n (pc := 126) (i := 0) F dX10_copy_126 rfl rfl ?_
                          refine v_getR (pc := 127) (o := 11) F fX10_40 dX10_copy_127 rfl lm0 ?_
                          refine v_topR (y := 11) rfl ?_
                          refine v_iload_n (pc := 130) (i := 1) F dX10_copy_130 rfl rfl ?_
                          refine v_ialdN (pc := 131) (k0 := k_p) F dX10_copy_131 (lm10_18 lm0) (rfl) (by omega) (by decide) ?_
                          refine v_topE (y := nI mp) (hmp) ?_
                          refine v_i2l (pc := 132) F dX10_copy_132 ?_
                          refine v_lcmp (pc := 133) F dX10_copy_133 ?_
                          refine v_if_gt (pc := 134) (tgt := 155) F dX10_copy_134 (by decide) (fun hlp => ?_) (fun hlp => ?_)
                          · rw [nI_l (by omega), nI_l (by omega), nI_l (by omega), lN_add, lc_gt, pk_lLT (by omega) (by omega)] at hlp
                            refine v_aload_n (pc := 155) (i := 0) F dX10_copy_155 rfl rfl ?_
                            refine v_bipush (pc := 156) (v := (-2)) F dX10_copy_156 (by decide) ?_
                            refine v_callVI (pc := 158) (As := [_]) (rest := []) (c := 10) F mX10_no kX10_96 im_X10_no se_X10_no dX10_copy_158 rfl rfl (by decide) (c_X10_no (-2) 2 (by decide) (by decide) _) (by decide) rfl rfl (Nat.le_of_ble_eq_true rfl) lm0 (fun x65 μ65 hp65 => ?_)
                            rw [hp65.1, hp65.2]
                            refine v_ireturn (pc := 161) F dX10_copy_161 (rfl) ?_
                            have c2 : (nI kn) < 0 ∨ (nI ki) < 0 ∨ (nI kj) < 0 ∨ ix (μ.1 11 k_p) < ix ((nI ki)) + ix ((nI kn)) ∨ ix (μ.1 11 k_q) < ix ((nI kj)) + ix ((nI kn)) := by first | exact Or.inr (Or.inr (Or.inr (Or.inl (by rw [hmp, ix_nI (by omega), ix_nI hki, ix_nI hkn]; omega)))) | exact Or.inr (Or.inr (Or.inr (Or.inr (by rw [hmq, ix_nI (by omega), ix_nI hkj, ix_nI hkn]; omega))))
                            simp only [s_copy, rj, hbp, hbq, ek_p, ek_q, ↓reduceIte]
                            rw [if_neg c3, if_neg c4, if_pos c2]
                            refine ⟨?_, ?_⟩ <;> first | exact trivial | exact rfl | exact Fm.rf
                          · rw [nI_l (by omega), nI_l (by omega), nI_l (by omega), lN_add, lc_gt, pk_lLT (by omega) (by omega)] at hlp
                            refine v_iload (pc := 137) (i := 4) F dX10_copy_137 rfl ?_
                            refine v_i2l (pc := 139) F dX10_copy_139 ?_
                            refine v_iload (pc := 140) (i := 5) F dX10_copy_140 rfl ?_
                            refine v_i2l (pc := 142) F dX10_copy_142 ?_
                            refine v_ladd (pc := 143) F dX10_copy_143 ?_
                            refine v_aload_n (pc := 144) (i := 0) F dX10_copy_144 rfl rfl ?_
                            refine v_getR (pc := 145) (o := 11) F fX10_40 dX10_copy_145 rfl lm0 ?_
                            refine v_topR (y := 11) rfl ?_
                            refine v_iload_n (pc := 148) (i := 2) F dX10_copy_148 rfl rfl ?_
                            refine v_ialdN (pc := 149) (k0 := k_q) F dX10_copy_149 (lm10_18 lm0) (rfl) (by omega) (by decide) ?_
                            refine v_topE (y := nI mq) (hmq) ?_
                            refine v_i2l (pc := 150) F dX10_copy_150 ?_
                            refine v_lcmp (pc := 151) F dX10_copy_151 ?_
                            refine v_if_le (pc := 152) (tgt := 162) F dX10_copy_152 (by decide) (fun hlq => ?_) (fun hlq => ?_)
                            · rw [nI_l (by omega), nI_l (by omega), nI_l (by omega), lN_add, lc_le, pk_lLE (by omega) (by omega)] at hlq
                              refine v_iload_n (pc := 162) (i := 1) F dX10_copy_162 rfl rfl ?_
                              refine v_iload_n (pc := 163) (i := 2) F dX10_copy_163 rfl rfl ?_
                              refine v_icmp_ne (pc := 164) (tgt := 222) F dX10_copy_164 (by decide) (fun hpq => ?_) (fun hpq => ?_)
                              · rw [nI_eq (by omega) (by omega)] at hpq
                                refine v_iconst (pc := 222) (v := nI 0) F dX10_copy_222 (by decide) ?_
                                refine v_istore (pc := 223) (lo' := [some (.ref _), some (.int _), some (.int _), some (.int _), some (.int _), some (.int _), some (.int _)]) F dX10_copy_223 rfl (Nat.le_of_ble_eq_true rfl) rfl ?_
                                refine j_up kn (fun x => ∀ μ' : j_M, (μ' = j_cL μ 12 12 (40 * k_p + ki) (40 * k_q + kj) x) → V X _ 225 [some (.ref 0), some (.int (nI k_p)), some (.int (nI k_q)), some (.int (nI ki)), some (.int (nI kj)), some (.int (nI kn)), some (.int (nI x))] [] μ') (fun x hk ih μ' hI => ?_) 0 (Nat.zero_le _) μ (cL_0.symm)
                                refine v_iload (pc := 225) (i := 6) F dX10_copy_225 rfl ?_
                                refine v_iload (pc := 227) (i := 5) F dX10_copy_227 rfl ?_
                                refine v_icmp_ge (pc := 229) (tgt := 267) F dX10_copy_229 (by decide) (fun h229_68 => ?_) (fun h229_68 => ?_)
                                · rw [nI_leI (by omega) (by omega)] at h229_68
                                  refine v_iload (pc := 267) (i := 5) F dX10_copy_267 rfl ?_
                                  refine v_ireturn (pc := 269) F dX10_copy_269 (rfl) ?_
                                  have c2 : ¬ ((nI kn) < 0 ∨ (nI ki) < 0 ∨ (nI kj) < 0 ∨ ix (μ.1 11 k_p) < ix ((nI ki)) + ix ((nI kn)) ∨ ix (μ.1 11 k_q) < ix ((nI kj)) + ix ((nI kn))) := by
                                    rintro (z | z | z | z | z)
                                    · exact nI_pos hkn z
                                    · exact nI_pos hki z
                                    · exact nI_pos hkj z
                                    · rw [hmp, ix_nI (by omega), ix_nI hki, ix_nI hkn] at z; omega
                                    · rw [hmq, ix_nI (by omega), ix_nI hkj, ix_nI hkn] at z; omega
                                  have e : x = kn := by omega
                                  subst e
                                  simp only [s_copy, rj, hbp, hbq, ek_p, ek_q, ↓reduceIte]
                                  rw [if_neg c3, if_neg c4, if_neg c2, ix_nI hki, ix_nI hkj, ix_nI hkn]
                                  refine ⟨by first | exact trivial | exact rfl, ?_⟩
                                  rw [hI]
                                  first | exact Fm.rf | (rw [show 40 * k_p + ki + (x - x) = 40 * k_p + ki by omega, show 40 * k_q + kj + (x - x) = 40 * k_q + kj by omega]; exact Fm.rf)
                                · rw [nI_leI (by omega) (by omega)] at h229_68
                                  refine v_aload_n (pc := 232) (i := 0) F dX10_copy_232 rfl rfl ?_
                                  refine v_getR (pc := 233) (o := 12) F fX10_43 dX10_copy_233 rfl lm0 ?_
                                  refine v_topR (y := 12) rfl ?_
                                  refine v_bipush (pc := 236) (v := nI 40) F dX10_copy_236 (by decide) ?_
                                  refine v_iload_n (pc := 238) (i := 2) F dX10_copy_238 rfl rfl ?_
                                  refine v_imul (pc := 239) F dX10_copy_239 ?_
                                  refine v_topE (pk_mul _ _) ?_
                                  refine v_iload (pc := 240) (i := 4) F dX10_copy_240 rfl ?_
                                  refine v_iadd (pc := 242) F dX10_copy_242 ?_
                                  refine v_topE (nI_add _ _) ?_
                                  refine v_iload (pc := 243) (i := 6) F dX10_copy_243 rfl ?_
                                  refine v_iadd (pc := 245) F dX10_copy_245 ?_
                                  refine v_topE (nI_add _ _) ?_
                                  refine v_aload_n (pc := 246) (i := 0) F dX10_copy_246 rfl rfl ?_
                                  refine v_getR (pc := 247) (o := 12) F fX10_43 dX10_copy_247 rfl lm0 ?_
                                  refine v_topR (y := 12) rfl ?_
                                  refine v_bipush (pc := 250) (v := nI 40) F dX10_copy_250 (by decide) ?_
                                  refine v_iload_n (pc := 252) (i := 1) F dX10_copy_252 rfl rfl ?_
                                  refine v_imul (pc := 253) F dX10_copy_253 ?_
                                  refine v_topE (pk_mul _ _) ?_
                                  refine v_iload_n (pc := 254) (i := 3) F dX10_copy_254 rfl rfl ?_
                                  refine v_iadd (pc := 255) F dX10_copy_255 ?_
                                  refine v_topE (nI_add _ _) ?_
                                  refine v_iload (pc := 256) (i := 6) F dX10_copy_256 rfl ?_
                                  refine v_iadd (pc := 258) F dX10_copy_258 ?_
                                  refine v_topE (nI_add _ _) ?_
                                  refine v_laldN (pc := 259) (k0 := 40 * k_p + ki + x) F dX10_copy_259 (lm10_19 lm0) (rfl) (by omega) (by decide) ?_
                                  refine v_lastN (pc := 260) (k0 := 40 * k_q + kj + x) F dX10_copy_260 (lm10_19 lm0) (rfl) (by omega) (by decide) ?_
                                  refine v_iinc (pc := 261) (i := 6) (v := nI (x + 1)) (lo' := [some (.ref _), some (.int _), some (.int _), some (.int _), some (.int _), some (.int _), some (.int _)]) F dX10_copy_261 rfl (j_inc _) rfl rfl ?_
                                  refine v_goto (pc := 264) (tgt := 225) F dX10_copy_264 (by decide) ?_
                                  refine ih (by omega) _ ?_
                                  rw [hI]
                                  exact cL_up (cL_o (by omega))
                              · rw [nI_eq (by omega) (by omega)] at hpq
                                refine v_iload_n (pc := 167) (i := 3) F dX10_copy_167 rfl rfl ?_
                                refine v_iload (pc := 168) (i := 4) F dX10_copy_168 rfl ?_
                                refine v_icmp_ge (pc := 170) (tgt := 222) F dX10_copy_170 (by decide) (fun hij => ?_) (fun hij => ?_)
                                · rw [nI_leI (by omega) (by omega)] at hij
                                  refine v_iconst (pc := 222) (v := nI 0) F dX10_copy_222 (by decide) ?_
                                  refine v_istore (pc := 223) (lo' := [some (.ref _), some (.int _), some (.int _), some (.int _), some (.int _), some (.int _), some (.int _)]) F dX10_copy_223 rfl (Nat.le_of_ble_eq_true rfl) rfl ?_
                                  refine j_up kn (fun x => ∀ μ' : j_M, (μ' = j_cL μ 12 12 (40 * k_p + ki) (40 * k_q + kj) x) → V X _ 225 [some (.ref 0), some (.int (nI k_p)), some (.int (nI k_q)), some (.int (nI ki)), some (.int (nI kj)), some (.int (nI kn)), some (.int (nI x))] [] μ') (fun x hk ih μ' hI => ?_) 0 (Nat.zero_le _) μ (cL_0.symm)
                                  refine v_iload (pc := 225) (i := 6) F dX10_copy_225 rfl ?_
                                  refine v_iload (pc := 227) (i := 5) F dX10_copy_227 rfl ?_
                                  refine v_icmp_ge (pc := 229) (tgt := 267) F dX10_copy_229 (by decide) (fun h229_70 => ?_) (fun h229_70 => ?_)
                                  · rw [nI_leI (by omega) (by omega)] at h229_70
                                    refine v_iload (pc := 267) (i := 5) F dX10_copy_267 rfl ?_
                                    refine v_ireturn (pc := 269) F dX10_copy_269 (rfl) ?_
                                    have c2 : ¬ ((nI kn) < 0 ∨ (nI ki) < 0 ∨ (nI kj) < 0 ∨ ix (μ.1 11 k_p) < ix ((nI ki)) + ix ((nI kn)) ∨ ix (μ.1 11 k_q) < ix ((nI kj)) + ix ((nI kn))) := by
                                      rintro (z | z | z | z | z)
                                      · exact nI_pos hkn z
                                      · exact nI_pos hki z
                                      · exact nI_pos hkj z
                                      · rw [hmp, ix_nI (by omega), ix_nI hki, ix_nI hkn] at z; omega
                                      · rw [hmq, ix_nI (by omega), ix_nI hkj, ix_nI hkn] at z; omega
                                    have e : x = kn := by omega
                                    subst e
                                    simp only [s_copy, rj, hbp, hbq, ek_p, ek_q, ↓reduceIte]
                                    rw [if_neg c3, if_neg c4, if_neg c2, ix_nI hki, ix_nI hkj, ix_nI hkn]
                                    refine ⟨by first | exact trivial | exact rfl, ?_⟩
                                    rw [hI]
                                    first | exact Fm.rf | (rw [show 40 * k_p + ki + (x - x) = 40 * k_p + ki by omega, show 40 * k_q + kj + (x - x) = 40 * k_q + kj by omega]; exact Fm.rf)
                                  · rw [nI_leI (by omega) (by omega)] at h229_70
                                    refine v_aload_n (pc := 232) (i := 0) F dX10_copy_232 rfl rfl ?_
                                    refine v_getR (pc := 233) (o := 12) F fX10_43 dX10_copy_233 rfl lm0 ?_
                                    refine v_topR (y := 12) rfl ?_
                                    refine v_bipush (pc := 236) (v := nI 40) F dX10_copy_236 (by decide) ?_
                                    refine v_iload_n (pc := 238) (i := 2) F dX10_copy_238 rfl rfl ?_
                                    refine v_imul (pc := 239) F dX10_copy_239 ?_
                                    refine v_topE (pk_mul _ _) ?_
                                    refine v_iload (pc := 240) (i := 4) F dX10_copy_240 rfl ?_
                                    refine v_iadd (pc := 242) F dX10_copy_242 ?_
                                    refine v_topE (nI_add _ _) ?_
                                    refine v_iload (pc := 243) (i := 6) F dX10_copy_243 rfl ?_
                                    refine v_iadd (pc := 245) F dX10_copy_245 ?_
                                    refine v_topE (nI_add _ _) ?_
                                    refine v_aload_n (pc := 246) (i := 0) F dX10_copy_246 rfl rfl ?_
                                    refine v_getR (pc := 247) (o := 12) F fX10_43 dX10_copy_247 rfl lm0 ?_
                                    refine v_topR (y := 12) rfl ?_
                                    refine v_bipush (pc := 250) (v := nI 40) F dX10_copy_250 (by decide) ?_
                                    refine v_iload_n (pc := 252) (i := 1) F dX10_copy_252 rfl rfl ?_
                                    refine v_imul (pc := 253) F dX10_copy_253 ?_
                                    refine v_topE (pk_mul _ _) ?_
                                    refine v_iload_n (pc := 254) (i := 3) F dX10_copy_254 rfl rfl ?_
                                    refine v_iadd (pc := 255) F dX10_copy_255 ?_
                                    refine v_topE (nI_add _ _) ?_
                                    refine v_iload (pc := 256) (i := 6) F dX10_copy_256 rfl ?_
                                    refine v_iadd (pc := 258) F dX10_copy_258 ?_
                                    refine v_topE (nI_add _ _) ?_
                                    refine v_laldN (pc := 259) (k0 := 40 * k_p + ki + x) F dX10_copy_259 (lm10_19 lm0) (rfl) (by omega) (by decide) ?_
                                    refine v_lastN (pc := 260) (k0 := 40 * k_q + kj + x) F dX10_copy_260 (lm10_19 lm0) (rfl) (by omega) (by decide) ?_
                                    refine v_iinc (pc := 261) (i := 6) (v := nI (x + 1)) (lo' := [some (.ref _), some (.int _), some (.int _), some (.int _), some (.int _), some (.int _), some (.int _)]) F dX10_copy_261 rfl (j_inc _) rfl rfl ?_
                                    refine v_goto (pc := 264) (tgt := 225) F dX10_copy_264 (by decide) ?_
                                    refine ih (by omega) _ ?_
                                    rw [hI]
                                    exact cL_up (cL_o (by omega))
                                · rw [nI_leI (by omega) (by omega)] at hij
                                  refine v_iload (pc := 173) (i := 5) F dX10_copy_173 rfl ?_
                                  refine v_iconst (pc := 175) (v := nI 1) F dX10_copy_175 (by decide) ?_
                                  refine v_isub (pc := 176) F dX10_copy_176 ?_
                                  refine v_topE (y := (dX kn 0)) (dX_00) ?_
                                  refine v_istore (pc := 177) (lo' := [some (.ref _), some (.int _), some (.int _), some (.int _), some (.int _), some (.int _), some (.int _)]) F dX10_copy_177 rfl (Nat.le_of_ble_eq_true rfl) rfl ?_
                                  refine j_up kn (fun x => ∀ μ' : j_M, (μ' = j_cL μ 12 12 ((40 * k_p + ki) + (kn - x)) ((40 * k_q + kj) + (kn - x)) x) → V X _ 179 [some (.ref 0), some (.int (nI k_p)), some (.int (nI k_q)), some (.int (nI ki)), some (.int (nI kj)), some (.int (nI kn)), some (.int ((dX kn x)))] [] μ') (fun x hk ih μ' hI => ?_) 0 (Nat.zero_le _) μ (cL_0.symm)
                                  refine v_iload (pc := 179) (i := 6) F dX10_copy_179 rfl ?_
                                  rcases Nat.lt_or_ge x kn with hx2 | hx2
                                  · skip
                                    rw [dX_lt hx2]
                                    refine v_if_lt (pc := 181) (tgt := 219) F dX10_copy_181 (by decide) (fun h181_71 => ?_) (fun h181_71 => ?_)
                                    · rw [j_lt0 (by omega)] at h181_71
                                      exact h181_71.elim
                                    · rw [j_lt0 (by omega)] at h181_71
                                      refine v_aload_n (pc := 184) (i := 0) F dX10_copy_184 rfl rfl ?_
                                      refine v_getR (pc := 185) (o := 12) F fX10_43 dX10_copy_185 rfl lm0 ?_
                                      refine v_topR (y := 12) rfl ?_
                                      refine v_bipush (pc := 188) (v := nI 40) F dX10_copy_188 (by decide) ?_
                                      refine v_iload_n (pc := 190) (i := 2) F dX10_copy_190 rfl rfl ?_
                                      refine v_imul (pc := 191) F dX10_copy_191 ?_
                                      refine v_topE (pk_mul _ _) ?_
                                      refine v_iload (pc := 192) (i := 4) F dX10_copy_192 rfl ?_
                                      refine v_iadd (pc := 194) F dX10_copy_194 ?_
                                      refine v_topE (nI_add _ _) ?_
                                      refine v_iload (pc := 195) (i := 6) F dX10_copy_195 rfl ?_
                                      refine v_iadd (pc := 197) F dX10_copy_197 ?_
                                      refine v_topE (nI_add _ _) ?_
                                      refine v_aload_n (pc := 198) (i := 0) F dX10_copy_198 rfl rfl ?_
                                      refine v_getR (pc := 199) (o := 12) F fX10_43 dX10_copy_199 rfl lm0 ?_
                                      refine v_topR (y := 12) rfl ?_
                                      refine v_bipush (pc := 202) (v := nI 40) F dX10_copy_202 (by decide) ?_
                                      refine v_iload_n (pc := 204) (i := 1) F dX10_copy_204 rfl rfl ?_
                                      refine v_imul (pc := 205) F dX10_copy_205 ?_
                                      refine v_topE (pk_mul _ _) ?_
                                      refine v_iload_n (pc := 206) (i := 3) F dX10_copy_206 rfl rfl ?_
                                      refine v_iadd (pc := 207) F dX10_copy_207 ?_
                                      refine v_topE (nI_add _ _) ?_
                                      refine v_iload (pc := 208) (i := 6) F dX10_copy_208 rfl ?_
                                      refine v_iadd (pc := 210) F dX10_copy_210 ?_
                                      refine v_topE (nI_add _ _) ?_
                                      refine v_laldN (pc := 211) (k0 := 40 * k_p + ki + (kn - 1 - x)) F dX10_copy_211 (lm10_19 lm0) (rfl) (by omega) (by decide) ?_
                                      refine v_lastN (pc := 212) (k0 := 40 * k_q + kj + (kn - 1 - x)) F dX10_copy_212 (lm10_19 lm0) (rfl) (by omega) (by decide) ?_
                                      refine v_iinc (pc := 213) (i := 6) (v := (dX kn (x + 1))) (lo' := [some (.ref _), some (.int _), some (.int _), some (.int _), some (.int _), some (.int _), some (.int _)]) F dX10_copy_213 rfl (dX_s hx2) rfl rfl ?_
                                      refine v_goto (pc := 216) (tgt := 179) F dX10_copy_216 (by decide) ?_
                                      refine ih (by omega) _ ?_
                                      rw [hI]
                                      have e1 : kn - x = kn - 1 - x + 1 := by omega
                                      have e2 : kn - (x + 1) = kn - 1 - x := by omega
                                      rw [e1, e2, ← Nat.add_assoc, ← Nat.add_assoc]
                                      exact cL_dn (cL_o (by omega))
                                  · skip
                                    rw [dX_ge hx2]
                                    refine v_if_lt (pc := 181) (tgt := 219) F dX10_copy_181 (by decide) (fun h181_72 => ?_) (fun h181_72 => ?_)
                                    · skip
                                      refine v_goto (pc := 219) (tgt := 267) F dX10_copy_219 (by decide) ?_
                                      refine v_iload (pc := 267) (i := 5) F dX10_copy_267 rfl ?_
                                      refine v_ireturn (pc := 269) F dX10_copy_269 (rfl) ?_
                                      have c2 : ¬ ((nI kn) < 0 ∨ (nI ki) < 0 ∨ (nI kj) < 0 ∨ ix (μ.1 11 k_p) < ix ((nI ki)) + ix ((nI kn)) ∨ ix (μ.1 11 k_q) < ix ((nI kj)) + ix ((nI kn))) := by
                                        rintro (z | z | z | z | z)
                                        · exact nI_pos hkn z
                                        · exact nI_pos hki z
                                        · exact nI_pos hkj z
                                        · rw [hmp, ix_nI (by omega), ix_nI hki, ix_nI hkn] at z; omega
                                        · rw [hmq, ix_nI (by omega), ix_nI hkj, ix_nI hkn] at z; omega
                                      have e : x = kn := by omega
                                      subst e
                                      simp only [s_copy, rj, hbp, hbq, ek_p, ek_q, ↓reduceIte]
                                      rw [if_neg c3, if_neg c4, if_neg c2, ix_nI hki, ix_nI hkj, ix_nI hkn]
                                      refine ⟨by first | exact trivial | exact rfl, ?_⟩
                                      rw [hI]
                                      first | exact Fm.rf | (rw [show 40 * k_p + ki + (x - x) = 40 * k_p + ki by omega, show 40 * k_q + kj + (x - x) = 40 * k_q + kj by omega]; exact Fm.rf)
                                    · skip
                                      exact absurd h181_72 (by decide)
                            · rw [nI_l (by omega), nI_l (by omega), nI_l (by omega), lN_add, lc_le, pk_lLE (by omega) (by omega)] at hlq
                              refine v_aload_n (pc := 155) (i := 0) F dX10_copy_155 rfl rfl ?_
                              refine v_bipush (pc := 156) (v := (-2)) F dX10_copy_156 (by decide) ?_
                              refine v_callVI (pc := 158) (As := [_]) (rest := []) (c := 10) F mX10_no kX10_96 im_X10_no se_X10_no dX10_copy_158 rfl rfl (by decide) (c_X10_no (-2) 2 (by decide) (by decide) _) (by decide) rfl rfl (Nat.le_of_ble_eq_true rfl) lm0 (fun x73 μ73 hp73 => ?_)
                              rw [hp73.1, hp73.2]
                              refine v_ireturn (pc := 161) F dX10_copy_161 (rfl) ?_
                              have c2 : (nI kn) < 0 ∨ (nI ki) < 0 ∨ (nI kj) < 0 ∨ ix (μ.1 11 k_p) < ix ((nI ki)) + ix ((nI kn)) ∨ ix (μ.1 11 k_q) < ix ((nI kj)) + ix ((nI kn)) := by first | exact Or.inr (Or.inr (Or.inr (Or.inl (by rw [hmp, ix_nI (by omega), ix_nI hki, ix_nI hkn]; omega)))) | exact Or.inr (Or.inr (Or.inr (Or.inr (by rw [hmq, ix_nI (by omega), ix_nI hkj, ix_nI hkn]; omega))))
                              simp only [s_copy, rj, hbp, hbq, ek_p, ek_q, ↓reduceIte]
                              rw [if_neg c3, if_neg c4, if_pos c2]
                              refine ⟨?_, ?_⟩ <;> first | exact trivial | exact rfl | exact Fm.rf
                  · skip
                    refine v_aload_n (pc := 99) (i := 0) F dX10_copy_99 rfl rfl ?_
                    refine v_bipush (pc := 100) (v := (-4)) F dX10_copy_100 (by decide) ?_
                    refine v_callVI (pc := 102) (As := [_]) (rest := []) (c := 10) F mX10_no kX10_96 im_X10_no se_X10_no dX10_copy_102 rfl rfl (by decide) (c_X10_no (-4) 4 (by decide) (by decide) _) (by decide) rfl rfl (Nat.le_of_ble_eq_true rfl) lm0 (fun x74 μ74 hp74 => ?_)
                    rw [hp74.1, hp74.2]
                    refine v_ireturn (pc := 105) F dX10_copy_105 (rfl) ?_
                    have c4 : μ.1 10 k_p < 0 ∨ μ.1 10 k_q < 0 := by first | exact Or.inl hp0 | exact Or.inr (Int32.not_le.mp hq0)
                    simp only [s_copy, rj, hbp, hbq, ek_p, ek_q, ↓reduceIte]
                    rw [if_neg c3, if_pos c4]
                    refine ⟨?_, ?_⟩ <;> first | exact trivial | exact rfl | exact Fm.rf
              · skip
                refine v_aload_n (pc := 74) (i := 0) F dX10_copy_74 rfl rfl ?_
                refine v_bipush (pc := 75) (v := (-3)) F dX10_copy_75 (by decide) ?_
                refine v_callVI (pc := 77) (As := [_]) (rest := []) (c := 10) F mX10_no kX10_96 im_X10_no se_X10_no dX10_copy_77 rfl rfl (by decide) (c_X10_no (-3) 3 (by decide) (by decide) _) (by decide) rfl rfl (Nat.le_of_ble_eq_true rfl) lm0 (fun x75 μ75 hp75 => ?_)
                rw [hp75.1, hp75.2]
                refine v_ireturn (pc := 80) F dX10_copy_80 (rfl) ?_
                have c3 : nI 10 ≤ μ.1 10 k_p ∨ nI 10 ≤ μ.1 10 k_q ∨ (inQ 5 (μ.1 10 k_p) = true ∧ inQ 5 (μ.1 10 k_q) = true ∧ ¬ μ.1 10 k_p = μ.1 10 k_q) := by first | exact Or.inl hP | exact Or.inr (Or.inl hQ) | exact Or.inr (Or.inr ⟨hrP, hrQ, heq⟩)
                simp only [s_copy, rj, hbp, hbq, ek_p, ek_q, ↓reduceIte]
                rw [if_pos c3]
                refine ⟨?_, ?_⟩ <;> first | exact trivial | exact rfl | exact Fm.rf
    · rw [b2i_0] at hbq
      refine v_aload_n (pc := 14) (i := 0) F dX10_copy_14 rfl rfl ?_
      refine v_bipush (pc := 15) (v := (-2)) F dX10_copy_15 (by decide) ?_
      refine v_callVI (pc := 17) (As := [_]) (rest := []) (c := 10) F mX10_no kX10_96 im_X10_no se_X10_no dX10_copy_17 rfl rfl (by decide) (c_X10_no (-2) 2 (by decide) (by decide) _) (by decide) rfl rfl (Nat.le_of_ble_eq_true rfl) lm0 (fun x76 μ76 hp76 => ?_)
      rw [hp76.1, hp76.2]
      refine v_ireturn (pc := 20) F dX10_copy_20 (rfl) ?_
      simp only [s_copy, rj, hnn, hbp, ek_p, hbq, ↓reduceIte]
      refine ⟨?_, ?_⟩ <;> first | exact trivial | exact rfl | exact Fm.rf
