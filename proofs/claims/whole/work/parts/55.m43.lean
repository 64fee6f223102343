/-! the class: copy, says, what is told of a looker -/

set_option maxRecDepth 100000 in
theorem c_X9_copy (p q i j n_ : Int32) (μ ν : j_M) (hM : MI ν) (hR : Rel μ ν) : Ct yX9_copy cX9_copy 8 (some .int) 3 ΛX [.ref 0, .int p, .int q, .int i, .int j, .int n_] μ (pI fun r μ2 => r = (s_copy p q i j n_ ν).1 ∧ Rel μ2 (s_copy p q i j n_ ν).2) := by
  refine Ct.go (lo := [some (.ref 0), some (.int p), some (.int q), some (.int i), some (.int j), some (.int n_), none, none]) (by decide) (Nat.le_of_ble_eq_true rfl) rfl rfl (fun X F => ?_)
  have F : Fx X cX9_copy RX9 3 (some .int) ΛX := F
  obtain ⟨n, hW, hsh, htp, him⟩ := id hM
  have hn := hW.1
  have hn8 := hW.2.1
  have hnn := nn_eq hn hn8
  have ho := hW.own
  have hpw := j_pw hn8
  have hS : SQ μ 1 ν.1 n := ⟨by have := hR.sc; rwa [hnn] at this, hn8⟩
  refine v_iload_n (pc := 0) (i := 1) F dX9_copy_0 rfl rfl ?_
  refine v_callSI (pc := 1) (As := [_]) (rest := []) F mX9_isShelf kX9_75 sm_X9_isShelf dX9_copy_1 (c_X9_isShelf _ _) (by decide) rfl rfl (Nat.le_of_ble_eq_true rfl) (fun x1 μ1 hp1 => ?_)
  rw [hp1.1, hp1.2]
  refine v_if_eq (pc := 4) (tgt := 14) F dX9_copy_4 (by decide) (fun hbp => ?_) (fun hbp => ?_)
  · rw [b2i_0] at hbp
    refine v_aload_n (pc := 14) (i := 0) F dX9_copy_14 rfl rfl ?_
    refine v_bipush (pc := 15) (v := (-2)) F dX9_copy_15 (by decide) ?_
    refine v_callVI (pc := 17) (As := [_]) (rest := []) (c := 9) F mX9_refuse kX9_79 im_X9_refuse se_X9_refuse dX9_copy_17 rfl rfl (by decide) (c_X9_refuse (-2) 2 (by decide) (by decide) (by decide) _) (by decide) rfl rfl (Nat.le_of_ble_eq_true rfl) lx0 (fun x3 μ3 hp3 => ?_)
    rw [hp3.1, hp3.2]
    refine v_ireturn (pc := 20) F dX9_copy_20 (rfl) ?_
    simp only [s_copy, rj, hnn, hbp, ↓reduceIte]
    refine ⟨?_, ?_⟩ <;> first | exact trivial | exact rfl | exact hR | exact Rel.rj hM hR (by decide)
  · rw [b2i_0] at hbp
    rw [Classical.not_not] at hbp
    obtain ⟨k_p, hk_p, he_p⟩ := inR_of (by decide) hbp
    subst he_p
    have ek_p : ix (nI k_p) = k_p := nI_clamp (by omega)
    refine v_iload_n (pc := 7) (i := 2) F dX9_copy_7 rfl rfl ?_
    refine v_callSI (pc := 8) (As := [_]) (rest := []) F mX9_isShelf kX9_75 sm_X9_isShelf dX9_copy_8 (c_X9_isShelf _ _) (by decide) rfl rfl (Nat.le_of_ble_eq_true rfl) (fun x4 μ4 hp4 => ?_)
    rw [hp4.1, hp4.2]
    refine v_if_ne (pc := 11) (tgt := 21) F dX9_copy_11 (by decide) (fun hbq => ?_) (fun hbq => ?_)
    · rw [b2i_0] at hbq
      rw [Classical.not_not] at hbq
      obtain ⟨k_q, hk_q, he_q⟩ := inR_of (by decide) hbq
      subst he_q
      have ek_q : ix (nI k_q) = k_q := nI_clamp (by omega)
      refine v_aload_n (pc := 21) (i := 0) F dX9_copy_21 rfl rfl ?_
      refine v_getR (pc := 22) (o := 103) F fX9_66 dX9_copy_22 rfl lx0 ?_
      refine v_topR (y := 103) rfl ?_
      refine v_iload_n (pc := 25) (i := 1) F dX9_copy_25 rfl rfl ?_
      refine v_aald15N (pc := 26) (k0 := k_p) (x := 104 + 2 * k_p) F dX9_copy_26 (lx9_10 lx0) (rfl) (by omega) (by decide) (by simp only [j_ro]; first | rfl | omega | (split <;> omega)) ?_
      have ho6 : j_ob ΛX (104 + 2 * k_p) 5 := by
        have q := lxS (lx9_10 lx0) (j := k_p) (by omega)
        simp only [j_ro] at q
        exact (by first | exact q | (rw [show 104 + 2 * k_p = _ from (by first | rfl | omega)]; exact q))
      refine v_astore (pc := 27) (lo' := [some (.ref _), some (.int _), some (.int _), some (.int _), some (.int _), some (.int _), some (.ref _), _]) F dX9_copy_27 rfl (Nat.le_of_ble_eq_true rfl) rfl ?_
      refine v_aload_n (pc := 29) (i := 0) F dX9_copy_29 rfl rfl ?_
      refine v_getR (pc := 30) (o := 103) F fX9_66 dX9_copy_30 rfl lx0 ?_
      refine v_topR (y := 103) rfl ?_
      refine v_iload_n (pc := 33) (i := 2) F dX9_copy_33 rfl rfl ?_
      refine v_aald15N (pc := 34) (k0 := k_q) (x := 104 + 2 * k_q) F dX9_copy_34 (lx9_10 lx0) (rfl) (by omega) (by decide) (by simp only [j_ro]; first | rfl | omega | (split <;> omega)) ?_
      have ho7 : j_ob ΛX (104 + 2 * k_q) 5 := by
        have q := lxS (lx9_10 lx0) (j := k_q) (by omega)
        simp only [j_ro] at q
        exact (by first | exact q | (rw [show 104 + 2 * k_q = _ from (by first | rfl | omega)]; exact q))
      refine v_astore (pc := 35) (lo' := [some (.ref _), some (.int _), some (.int _), some (.int _), some (.int _), some (.int _), some (.ref _), some (.ref _)]) F dX9_copy_35 rfl (Nat.le_of_ble_eq_true rfl) rfl ?_
      refine v_aload (pc := 37) (i := 6) F dX9_copy_37 rfl ?_
      refine v_callVI (pc := 39) (As := []) (rest := []) (c := 5) F mX5_isLooker kX9_102 im_X5_isLooker se_X5_isLooker dX9_copy_39 rfl rfl (by decide) (c_X5_isLooker _ ho6 _) (by decide) rfl rfl (Nat.le_of_ble_eq_true rfl) ho6 (fun x8 μ8 hp8 => ?_)
      rw [hp8.1, hp8.2]
      rw [(hR.sf k_p (by omega)).1]
      refine v_if_ne (pc := 42) (tgt := 53) F dX9_copy_42 (by decide) (fun hP => ?_) (fun hP => ?_)
      · rw [b2i_0] at hP
        rw [Classical.not_not] at hP
        refine v_aload_n (pc := 53) (i := 0) F dX9_copy_53 rfl rfl ?_
        refine v_bipush (pc := 54) (v := (-3)) F dX9_copy_54 (by decide) ?_
        refine v_callVI (pc := 56) (As := [_]) (rest := []) (c := 9) F mX9_refuse kX9_79 im_X9_refuse se_X9_refuse dX9_copy_56 rfl rfl (by decide) (c_X9_refuse (-3) 3 (by decide) (by decide) (by decide) _) (by decide) rfl rfl (Nat.le_of_ble_eq_true rfl) lx0 (fun x10 μ10 hp10 => ?_)
        rw [hp10.1, hp10.2]
        refine v_ireturn (pc := 59) F dX9_copy_59 (rfl) ?_
        have c3 : nI 10 ≤ ν.1 10 k_p ∨ nI 10 ≤ ν.1 10 k_q ∨ (inQ 5 (ν.1 10 k_p) = true ∧ inQ 5 (ν.1 10 k_q) = true ∧ ¬ ν.1 10 k_p = ν.1 10 k_q) := by first | exact Or.inl hP | exact Or.inr (Or.inl hQ)
        simp only [s_copy, rj, hnn, hbp, hbq, ek_p, ek_q, ↓reduceIte]
        rw [if_pos c3]
        exact ⟨(by first | exact trivial | exact rfl), Rel.rj hM hR (by decide)⟩
      · rw [b2i_0] at hP
        refine v_aload (pc := 45) (i := 7) F dX9_copy_45 rfl ?_
        refine v_callVI (pc := 47) (As := []) (rest := []) (c := 5) F mX5_isLooker kX9_102 im_X5_isLooker se_X5_isLooker dX9_copy_47 rfl rfl (by decide) (c_X5_isLooker _ ho7 _) (by decide) rfl rfl (Nat.le_of_ble_eq_true rfl) ho7 (fun x11 μ11 hp11 => ?_)
        rw [hp11.1, hp11.2]
        rw [(hR.sf k_q (by omega)).1]
        refine v_if_eq (pc := 50) (tgt := 60) F dX9_copy_50 (by decide) (fun hQ => ?_) (fun hQ => ?_)
        · rw [b2i_0] at hQ
          refine v_aload (pc := 60) (i := 6) F dX9_copy_60 rfl ?_
          refine v_callVI (pc := 62) (As := []) (rest := []) (c := 5) F mX5_isNothing kX9_91 im_X5_isNothing se_X5_isNothing dX9_copy_62 rfl rfl (by decide) (c_X5_isNothing _ ho6 _) (by decide) rfl rfl (Nat.le_of_ble_eq_true rfl) ho6 (fun x13 μ13 hp13 => ?_)
          rw [hp13.1, hp13.2]
          rw [(hR.sf k_p (by omega)).1]
          refine v_if_ne (pc := 65) (tgt := 76) F dX9_copy_65 (by decide) (fun hNp => ?_) (fun hNp => ?_)
          · rw [b2i_0] at hNp
            rw [Classical.not_not] at hNp
            refine v_aload_n (pc := 76) (i := 0) F dX9_copy_76 rfl rfl ?_
            refine v_bipush (pc := 77) (v := (-4)) F dX9_copy_77 (by decide) ?_
            refine v_callVI (pc := 79) (As := [_]) (rest := []) (c := 9) F mX9_refuse kX9_79 im_X9_refuse se_X9_refuse dX9_copy_79 rfl rfl (by decide) (c_X9_refuse (-4) 4 (by decide) (by decide) (by decide) _) (by decide) rfl rfl (Nat.le_of_ble_eq_true rfl) lx0 (fun x15 μ15 hp15 => ?_)
            rw [hp15.1, hp15.2]
            refine v_ireturn (pc := 82) F dX9_copy_82 (rfl) ?_
            have c3 : ¬ (nI 10 ≤ ν.1 10 k_p ∨ nI 10 ≤ ν.1 10 k_q ∨ (inQ 5 (ν.1 10 k_p) = true ∧ inQ 5 (ν.1 10 k_q) = true ∧ ¬ ν.1 10 k_p = ν.1 10 k_q)) := by
              rintro (z | z | ⟨z1, z2, z3⟩)
              · exact hP z
              · exact hQ z
              · first | exact z3 heq | (rw [hNp] at z1; exact absurd z1 (by decide)) | (rw [hNq] at z2; exact absurd z2 (by decide))
            have c4 : ν.1 10 k_p < 0 ∨ ν.1 10 k_q < 0 := by first | exact Or.inl (by rw [hNp]; decide) | exact Or.inr (by rw [hNq]; decide)
            simp only [s_copy, rj, hnn, hbp, hbq, ek_p, ek_q, ↓reduceIte]
            rw [if_neg c3, if_pos c4]
            exact ⟨(by first | exact trivial | exact rfl), Rel.rj hM hR (by decide)⟩
          · rw [b2i_0] at hNp
            refine v_aload (pc := 68) (i := 7) F dX9_copy_68 rfl ?_
            refine v_callVI (pc := 70) (As := []) (rest := []) (c := 5) F mX5_isNothing kX9_91 im_X5_isNothing se_X5_isNothing dX9_copy_70 rfl rfl (by decide) (c_X5_isNothing _ ho7 _) (by decide) rfl rfl (Nat.le_of_ble_eq_true rfl) ho7 (fun x16 μ16 hp16 => ?_)
            rw [hp16.1, hp16.2]
            rw [(hR.sf k_q (by omega)).1]
            refine v_if_eq (pc := 73) (tgt := 83) F dX9_copy_73 (by decide) (fun hNq => ?_) (fun hNq => ?_)
            · rw [b2i_0] at hNq
              obtain ⟨⟨jp, hjp, hp5⟩, mp, hmp, hlp⟩ := SH_r (hsh k_p (by omega)) hn8 hP hNp
              obtain ⟨⟨jq, hjq, hq5⟩, mq, hmq, hlq⟩ := SH_r (hsh k_q (by omega)) hn8 hQ hNq
              have hrp : inQ 5 (ν.1 10 k_p) = true := (inR_iff (by decide)).mpr ⟨jp, hjp, hp5⟩
              have hrq : inQ 5 (ν.1 10 k_q) = true := (inR_iff (by decide)).mpr ⟨jq, hjq, hq5⟩
              have hszp := ((hR.sf k_p (by omega)).2.1 hrp).trans hlp
              have hszq := ((hR.sf k_q (by omega)).2.1 hrq).trans hlq
              have c4 : ¬ (ν.1 10 k_p < 0 ∨ ν.1 10 k_q < 0) := by
                rintro (z | z)
                · rw [hp5] at z; exact nI_pos (by omega) z
                · rw [hq5] at z; exact nI_pos (by omega) z
              refine v_aload (pc := 83) (i := 6) F dX9_copy_83 rfl ?_
              refine v_getI (pc := 85) F fX9_105 dX9_copy_85 rfl ho6 ?_
              refine v_topE (y := (ν.1 10 k_p)) ((hR.sf k_p (by omega)).1) ?_
              refine v_aload (pc := 88) (i := 7) F dX9_copy_88 rfl ?_
              refine v_getI (pc := 90) F fX9_105 dX9_copy_90 rfl ho7 ?_
              refine v_topE (y := (ν.1 10 k_q)) ((hR.sf k_q (by omega)).1) ?_
              refine v_icmp_eq (pc := 93) (tgt := 103) F dX9_copy_93 (by decide) (fun heq => ?_) (fun heq => ?_)
              · skip
                have c3 : ¬ (nI 10 ≤ ν.1 10 k_p ∨ nI 10 ≤ ν.1 10 k_q ∨ (inQ 5 (ν.1 10 k_p) = true ∧ inQ 5 (ν.1 10 k_q) = true ∧ ¬ ν.1 10 k_p = ν.1 10 k_q)) := by
                  rintro (z | z | ⟨z1, z2, z3⟩)
                  · exact hP z
                  · exact hQ z
                  · first | exact z3 heq | (rw [hNp] at z1; exact absurd z1 (by decide)) | (rw [hNq] at z2; exact absurd z2 (by decide))
                refine v_aload (pc := 103) (i := 6) F dX9_copy_103 rfl ?_
                refine v_iload_n (pc := 105) (i := 3) F dX9_copy_105 rfl rfl ?_
                refine v_iload (pc := 106) (i := 5) F dX9_copy_106 rfl ?_
                refine v_callVI (pc := 108) (As := [_, _]) (rest := []) (c := 5) F mX5_hasRun kX9_108 im_X5_hasRun se_X5_hasRun dX9_copy_108 rfl rfl (by decide) (c_X5_hasRun _ ho6 _ _ _) (by decide) rfl rfl (Nat.le_of_ble_eq_true rfl) ho6 (fun x19 μ19 hp19 => ?_)
                rw [hp19.1, hp19.2, hszp]
                refine v_if_eq (pc := 111) (tgt := 126) F dX9_copy_111 (by decide) (fun hr1 => ?_) (fun hr1 => ?_)
                · rw [b2i_0] at hr1
                  refine v_aload_n (pc := 126) (i := 0) F dX9_copy_126 rfl rfl ?_
                  refine v_bipush (pc := 127) (v := (-2)) F dX9_copy_127 (by decide) ?_
                  refine v_callVI (pc := 129) (As := [_]) (rest := []) (c := 9) F mX9_refuse kX9_79 im_X9_refuse se_X9_refuse dX9_copy_129 rfl rfl (by decide) (c_X9_refuse (-2) 2 (by decide) (by decide) (by decide) _) (by decide) rfl rfl (Nat.le_of_ble_eq_true rfl) lx0 (fun x21 μ21 hp21 => ?_)
                  rw [hp21.1, hp21.2]
                  refine v_ireturn (pc := 132) F dX9_copy_132 (rfl) ?_
                  have c2 : n_ < 0 ∨ i < 0 ∨ j < 0 ∨ ix (ν.1 11 k_p) < ix (i) + ix (n_) ∨ ix (ν.1 11 k_q) < ix (j) + ix (n_) := by
                    rw [hlp, hlq, ix_nI (by omega), ix_nI (by omega)]
                    rcases run_n hmp hr1 with z | z | z
                    · exact Or.inl z
                    · exact Or.inr (Or.inl z)
                    · exact Or.inr (Or.inr (Or.inr (Or.inl z)))
                  simp only [s_copy, rj, hnn, hbp, hbq, ek_p, ek_q, ↓reduceIte]
                  rw [if_neg c3, if_neg c4, if_pos c2]
                  exact ⟨(by first | exact trivial | exact rfl), Rel.rj hM hR (by decide)⟩
                · rw [b2i_0] at hr1
                  rw [Classical.not_not] at hr1
                  refine v_aload (pc := 114) (i := 7) F dX9_copy_114 rfl ?_
                  refine v_iload (pc := 116) (i := 4) F dX9_copy_116 rfl ?_
                  refine v_iload (pc := 118) (i := 5) F dX9_copy_118 rfl ?_
                  refine v_callVI (pc := 120) (As := [_, _]) (rest := []) (c := 5) F mX5_hasRun kX9_108 im_X5_hasRun se_X5_hasRun dX9_copy_120 rfl rfl (by decide) (c_X5_hasRun _ ho7 _ _ _) (by decide) rfl rfl (Nat.le_of_ble_eq_true rfl) ho7 (fun x22 μ22 hp22 => ?_)
                  rw [hp22.1, hp22.2, hszq]
                  refine v_if_ne (pc := 123) (tgt := 133) F dX9_copy_123 (by decide) (fun hr2 => ?_) (fun hr2 => ?_)
                  · rw [b2i_0] at hr2
                    rw [Classical.not_not] at hr2
                    obtain ⟨ki, kn, rfl, rfl, hb1⟩ := run_y hmp hr1
                    obtain ⟨kj, kn2, rfl, hne2, hb2⟩ := run_y hmq hr2
                    have hkn : kn = kn2 := (nI_eq (by omega) (by omega)).mp hne2
                    subst hkn
                    refine v_aload (pc := 133) (i := 6) F dX9_copy_133 rfl ?_
                    refine v_getR (pc := 135) (o := 1) F fX9_112 dX9_copy_135 rfl ho6 ?_
                    refine v_topR (y := 104 + 2 * k_p + 1) rfl ?_
                    refine v_iload_n (pc := 138) (i := 3) F dX9_copy_138 rfl rfl ?_
                    refine v_aload (pc := 139) (i := 7) F dX9_copy_139 rfl ?_
                    refine v_getR (pc := 141) (o := 1) F fX9_112 dX9_copy_141 rfl ho7 ?_
                    refine v_topR (y := 104 + 2 * k_q + 1) rfl ?_
                    refine v_iload (pc := 144) (i := 4) F dX9_copy_144 rfl ?_
                    refine v_iload (pc := 146) (i := 5) F dX9_copy_146 rfl ?_
                    refine v_copyJ (pc := 148) F dX9_copy_148 mlX9_116 (lx5_0 ho6) (lx5_0 ho7) rfl rfl rfl (by omega) (by omega) (by decide) (by decide) (by decide) ?_
                    refine v_iload (pc := 151) (i := 5) F dX9_copy_151 rfl ?_
                    refine v_ireturn (pc := 153) F dX9_copy_153 (rfl) ?_
                    have c2 : ¬ ((nI kn) < 0 ∨ (nI ki) < 0 ∨ (nI kj) < 0 ∨ ix (ν.1 11 k_p) < ix ((nI ki)) + ix ((nI kn)) ∨ ix (ν.1 11 k_q) < ix ((nI kj)) + ix ((nI kn))) := by
                      rw [hlp, hlq, ix_nI (by omega), ix_nI (by omega), ix_nI (by omega), ix_nI (by omega), ix_nI (by omega)]
                      rintro (z | z | z | z | z)
                      · exact nI_pos (by omega) z
                      · exact nI_pos (by omega) z
                      · exact nI_pos (by omega) z
                      · omega
                      · omega
                    simp only [s_copy, rj, hnn, hbp, hbq, ek_p, ek_q, ↓reduceIte]
                    rw [if_neg c3, if_neg c4, if_neg c2, ix_nI (by omega), ix_nI (by omega), ix_nI (by omega)]
                    exact ⟨(by first | exact trivial | exact rfl), hR.cpy hM (by omega) (by omega) (by omega) (by omega)⟩
                  · rw [b2i_0] at hr2
                    refine v_aload_n (pc := 126) (i := 0) F dX9_copy_126 rfl rfl ?_
                    refine v_bipush (pc := 127) (v := (-2)) F dX9_copy_127 (by decide) ?_
                    refine v_callVI (pc := 129) (As := [_]) (rest := []) (c := 9) F mX9_refuse kX9_79 im_X9_refuse se_X9_refuse dX9_copy_129 rfl rfl (by decide) (c_X9_refuse (-2) 2 (by decide) (by decide) (by decide) _) (by decide) rfl rfl (Nat.le_of_ble_eq_true rfl) lx0 (fun x24 μ24 hp24 => ?_)
                    rw [hp24.1, hp24.2]
                    refine v_ireturn (pc := 132) F dX9_copy_132 (rfl) ?_
                    have c2 : n_ < 0 ∨ i < 0 ∨ j < 0 ∨ ix (ν.1 11 k_p) < ix (i) + ix (n_) ∨ ix (ν.1 11 k_q) < ix (j) + ix (n_) := by
                      rw [hlp, hlq, ix_nI (by omega), ix_nI (by omega)]
                      rcases run_n hmq hr2 with z | z | z
                      · exact Or.inl z
                      · exact Or.inr (Or.inr (Or.inl z))
                      · exact Or.inr (Or.inr (Or.inr (Or.inr z)))
                    simp only [s_copy, rj, hnn, hbp, hbq, ek_p, ek_q, ↓reduceIte]
                    rw [if_neg c3, if_neg c4, if_pos c2]
                    exact ⟨(by first | exact trivial | exact rfl), Rel.rj hM hR (by decide)⟩
              · skip
                refine v_aload_n (pc := 96) (i := 0) F dX9_copy_96 rfl rfl ?_
                refine v_bipush (pc := 97) (v := (-3)) F dX9_copy_97 (by decide) ?_
                refine v_callVI (pc := 99) (As := [_]) (rest := []) (c := 9) F mX9_refuse kX9_79 im_X9_refuse se_X9_refuse dX9_copy_99 rfl rfl (by decide) (c_X9_refuse (-3) 3 (by decide) (by decide) (by decide) _) (by decide) rfl rfl (Nat.le_of_ble_eq_true rfl) lx0 (fun x25 μ25 hp25 => ?_)
                rw [hp25.1, hp25.2]
                refine v_ireturn (pc := 102) F dX9_copy_102 (rfl) ?_
                have c3 : nI 10 ≤ ν.1 10 k_p ∨ nI 10 ≤ ν.1 10 k_q ∨ (inQ 5 (ν.1 10 k_p) = true ∧ inQ 5 (ν.1 10 k_q) = true ∧ ¬ ν.1 10 k_p = ν.1 10 k_q) := Or.inr (Or.inr ⟨hrp, hrq, heq⟩)
                simp only [s_copy, rj, hnn, hbp, hbq, ek_p, ek_q, ↓reduceIte]
                rw [if_pos c3]
                exact ⟨(by first | exact trivial | exact rfl), Rel.rj hM hR (by decide)⟩
            · rw [b2i_0] at hNq
              rw [Classical.not_not] at hNq
              refine v_aload_n (pc := 76) (i := 0) F dX9_copy_76 rfl rfl ?_
              refine v_bipush (pc := 77) (v := (-4)) F dX9_copy_77 (by decide) ?_
              refine v_callVI (pc := 79) (As := [_]) (rest := []) (c := 9) F mX9_refuse kX9_79 im_X9_refuse se_X9_refuse dX9_copy_79 rfl rfl (by decide) (c_X9_refuse (-4) 4 (by decide) (by decide) (by decide) _) (by decide) rfl rfl (Nat.le_of_ble_eq_true rfl) lx0 (fun x26 μ26 hp26 => ?_)
              rw [hp26.1, hp26.2]
              refine v_ireturn (pc := 82) F dX9_copy_82 (rfl) ?_
              have c3 : ¬ (nI 10 ≤ ν.1 10 k_p ∨ nI 10 ≤ ν.1 10 k_q ∨ (inQ 5 (ν.1 10 k_p) = true ∧ inQ 5 (ν.1 10 k_q) = true ∧ ¬ ν.1 10 k_p = ν.1 10 k_q)) := by
                rintro (z | z | ⟨z1, z2, z3⟩)
                · exact hP z
                · exact hQ z
                · first | exact z3 heq | (rw [hNp] at z1; exact absurd z1 (by decide)) | (rw [hNq] at z2; exact absurd z2 (by decide))
              have c4 : ν.1 10 k_p < 0 ∨ ν.1 10 k_q < 0 := by first | exact Or.inl (by rw [hNp]; decide) | exact Or.inr (by rw [hNq]; decide)
              simp only [s_copy, rj, hnn, hbp, hbq, ek_p, ek_q, ↓reduceIte]
              rw [if_neg c3, if_pos c4]
              exact ⟨(by first | exact trivial | exact rfl), Rel.rj hM hR (by decide)⟩
        · rw [b2i_0] at hQ
          rw [Classical.not_not] at hQ
          refine v_aload_n (pc := 53) (i := 0) F dX9_copy_53 rfl rfl ?_
          refine v_bipush (pc := 54) (v := (-3)) F dX9_copy_54 (by decide) ?_
          refine v_callVI (pc := 56) (As := [_]) (rest := []) (c := 9) F mX9_refuse kX9_79 im_X9_refuse se_X9_refuse dX9_copy_56 rfl rfl (by decide) (c_X9_refuse (-3) 3 (by decide) (by decide) (by decide) _) (by decide) rfl rfl (Nat.le_of_ble_eq_true rfl) lx0 (fun x27 μ27 hp27 => ?_)
          rw [hp27.1, hp27.2]
          refine v_ireturn (pc := 59) F dX9_copy_59 (rfl) ?_
          have c3 : nI 10 ≤ ν.1 10 k_p ∨ nI 10 ≤ ν.1 10 k_q ∨ (inQ 5 (ν.1 10 k_p) = true ∧ inQ 5 (ν.1 10 k_q) = true ∧ ¬ ν.1 10 k_p = ν.1 10 k_q) := by first | exact Or.inl hP | exact Or.inr (Or.inl hQ)
          simp only [s_copy, rj, hnn, hbp, hbq, ek_p, ek_q, ↓reduceIte]
          rw [if_pos c3]
          exact ⟨(by first | exact trivial | exact rfl), Rel.rj hM hR (by decide)⟩
    · rw [b2i_0] at hbq
      refine v_aload_n (pc := 14) (i := 0) F dX9_copy_14 rfl rfl ?_
      refine v_bipush (pc := 15) (v := (-2)) F dX9_copy_15 (by decide) ?_
      refine v_callVI (pc := 17) (As := [_]) (rest := []) (c := 9) F mX9_refuse kX9_79 im_X9_refuse se_X9_refuse dX9_copy_17 rfl rfl (by decide) (c_X9_refuse (-2) 2 (by decide) (by decide) (by decide) _) (by decide) rfl rfl (Nat.le_of_ble_eq_true rfl) lx0 (fun x28 μ28 hp28 => ?_)
      rw [hp28.1, hp28.2]
      refine v_ireturn (pc := 20) F dX9_copy_20 (rfl) ?_
      simp only [s_copy, rj, hnn, hbp, ek_p, hbq, ↓reduceIte]
      refine ⟨?_, ?_⟩ <;> first | exact trivial | exact rfl | exact hR | exact Rel.rj hM hR (by decide)

theorem in_no {n j : Nat} (hn : n ≤ 8) (hj : j < 5) : ¬ inQ n (nI j - nI 10) = true := by
  intro z
  have h1 := (inQ_def.mp z).1
  exact absurd (pk_sneg (a := j) (b := 10) (by decide) (by omega)) (Int32.not_lt.mpr h1)
theorem h10_sub {l : Nat} : nI (10 + l) - nI 10 = nI l := by rw [pk_sub (by omega), show 10 + l - 10 = l by omega]

set_option maxRecDepth 100000 in
theorem c_X9_says (s k : Int32) (μ ν : j_M) (hM : MI ν) (hR : Rel μ ν) : Ct yX9_says cX9_says 6 (some .int) 4 ΛX [.ref 0, .int s, .int k] μ (pI fun r μ2 => r = (s_says s k ν).1 ∧ Rel μ2 (s_says s k ν).2) := by
  refine Ct.go (lo := [some (.ref 0), some (.int s), some (.int k), none, none, none]) (by decide) (Nat.le_of_ble_eq_true rfl) rfl rfl (fun X F => ?_)
  have F : Fx X cX9_says RX9 4 (some .int) ΛX := F
  obtain ⟨n, hW, hsh, htp, him⟩ := id hM
  have hn := hW.1
  have hn8 := hW.2.1
  have hnn := nn_eq hn hn8
  have ho := hW.own
  have hpw := j_pw hn8
  have hS : SQ μ 1 ν.1 n := ⟨by have := hR.sc; rwa [hnn] at this, hn8⟩
  refine v_iload_n (pc := 0) (i := 1) F dX9_says_0 rfl rfl ?_
  refine v_callSI (pc := 1) (As := [_]) (rest := []) F mX9_isShelf kX9_75 sm_X9_isShelf dX9_says_1 (c_X9_isShelf _ _) (by decide) rfl rfl (Nat.le_of_ble_eq_true rfl) (fun x1 μ1 hp1 => ?_)
  rw [hp1.1, hp1.2]
  refine v_if_eq (pc := 4) (tgt := 17) F dX9_says_4 (by decide) (fun h4_2 => ?_) (fun h4_2 => ?_)
  · rw [b2i_0] at h4_2
    refine v_aload_n (pc := 17) (i := 0) F dX9_says_17 rfl rfl ?_
    refine v_bipush (pc := 18) (v := (-2)) F dX9_says_18 (by decide) ?_
    refine v_callVI (pc := 20) (As := [_]) (rest := []) (c := 9) F mX9_refuse kX9_79 im_X9_refuse se_X9_refuse dX9_says_20 rfl rfl (by decide) (c_X9_refuse (-2) 2 (by decide) (by decide) (by decide) _) (by decide) rfl rfl (Nat.le_of_ble_eq_true rfl) lx0 (fun x3 μ3 hp3 => ?_)
    rw [hp3.1, hp3.2]
    refine v_ireturn (pc := 23) F dX9_says_23 (rfl) ?_
    simp only [s_says, rj, hnn, h4_2, ↓reduceIte]
    refine ⟨?_, ?_⟩ <;> first | exact trivial | exact rfl | exact hR | exact Rel.rj hM hR (by decide)
  · rw [b2i_0] at h4_2
    rw [Classical.not_not] at h4_2
    obtain ⟨k_s, hk_s, he_s⟩ := inR_of (by decide) h4_2
    subst he_s
    have ek_s : ix (nI k_s) = k_s := nI_clamp (by omega)
    by_cases hq_k : inQ 6 k = true
    · skip
      obtain ⟨k_k, hk_k, he_k⟩ := inR_of (by decide) hq_k
      subst he_k
      have ek_k : ix (nI k_k) = k_k := nI_clamp (by omega)
      refine v_iload_n (pc := 7) (i := 2) F dX9_says_7 rfl rfl ?_
      refine v_if_lt (pc := 8) (tgt := 17) F dX9_says_8 (by decide) (fun h8_4 => ?_) (fun h8_4 => ?_)
      · rw [j_lt0 (by omega)] at h8_4
        exact h8_4.elim
      · rw [j_lt0 (by omega)] at h8_4
        refine v_iload_n (pc := 11) (i := 2) F dX9_says_11 rfl rfl ?_
        refine v_bipush (pc := 12) (v := nI 6) F dX9_says_12 (by decide) ?_
        refine v_icmp_lt (pc := 14) (tgt := 24) F dX9_says_14 (by decide) (fun h14_5 => ?_) (fun h14_5 => ?_)
        · rw [nI_ltI (by omega) (by omega)] at h14_5
          refine v_aload_n (pc := 24) (i := 0) F dX9_says_24 rfl rfl ?_
          refine v_getR (pc := 25) (o := 103) F fX9_66 dX9_says_25 rfl lx0 ?_
          refine v_topR (y := 103) rfl ?_
          refine v_iload_n (pc := 28) (i := 1) F dX9_says_28 rfl rfl ?_
          refine v_aald15N (pc := 29) (k0 := k_s) (x := 104 + 2 * k_s) F dX9_says_29 (lx9_10 lx0) (rfl) (by omega) (by decide) (by simp only [j_ro]; first | rfl | omega | (split <;> omega)) ?_
          have ho6 : j_ob ΛX (104 + 2 * k_s) 5 := by
            have q := lxS (lx9_10 lx0) (j := k_s) (by omega)
            simp only [j_ro] at q
            exact (by first | exact q | (rw [show 104 + 2 * k_s = _ from (by first | rfl | omega)]; exact q))
          refine v_astore_n (pc := 30) (lo' := [some (.ref _), some (.int _), some (.int _), some (.ref _), _, _]) F dX9_says_30 rfl rfl (Nat.le_of_ble_eq_true rfl) rfl ?_
          rcases hsh k_s (by omega) with hh | ⟨⟨j5, hj5, hh⟩, -⟩ | ⟨l, hl, hh⟩
          · skip
            refine v_aload_n (pc := 31) (i := 3) F dX9_says_31 rfl rfl ?_
            refine v_callVI (pc := 32) (As := []) (rest := []) (c := 5) F mX5_isNothing kX9_91 im_X5_isNothing se_X5_isNothing dX9_says_32 rfl rfl (by decide) (c_X5_isNothing _ ho6 _) (by decide) rfl rfl (Nat.le_of_ble_eq_true rfl) ho6 (fun x7 μ7 hp7 => ?_)
            rw [hp7.1, hp7.2]
            rw [(hR.sf k_s (by omega)).1]
            refine v_if_eq (pc := 35) (tgt := 45) F dX9_says_35 (by decide) (fun hno => ?_) (fun hno => ?_)
            · rw [b2i_0] at hno
              exact absurd hh hno
            · rw [b2i_0] at hno
              rw [Classical.not_not] at hno
              refine v_aload_n (pc := 38) (i := 0) F dX9_says_38 rfl rfl ?_
              refine v_bipush (pc := 39) (v := (-4)) F dX9_says_39 (by decide) ?_
              refine v_callVI (pc := 41) (As := [_]) (rest := []) (c := 9) F mX9_refuse kX9_79 im_X9_refuse se_X9_refuse dX9_says_41 rfl rfl (by decide) (c_X9_refuse (-4) 4 (by decide) (by decide) (by decide) _) (by decide) rfl rfl (Nat.le_of_ble_eq_true rfl) lx0 (fun x9 μ9 hp9 => ?_)
              rw [hp9.1, hp9.2]
              refine v_ireturn (pc := 44) F dX9_says_44 (rfl) ?_
              have hr5 : ¬ inQ 5 (ν.1 10 k_s) = true := by rw [hh]; decide
              simp only [s_says, rj, hr5, hnn, h4_2, ek_s, hq_k, ek_k, h8_4, h14_5, hno, ↓reduceIte]
              exact ⟨(by first | exact trivial | exact rfl), Rel.rj hM hR (by decide)⟩
          · skip
            have hr5 : inQ 5 (ν.1 10 k_s) = true := (inR_iff (by decide)).mpr ⟨j5, hj5, hh⟩
            refine v_aload_n (pc := 31) (i := 3) F dX9_says_31 rfl rfl ?_
            refine v_callVI (pc := 32) (As := []) (rest := []) (c := 5) F mX5_isNothing kX9_91 im_X5_isNothing se_X5_isNothing dX9_says_32 rfl rfl (by decide) (c_X5_isNothing _ ho6 _) (by decide) rfl rfl (Nat.le_of_ble_eq_true rfl) ho6 (fun x10 μ10 hp10 => ?_)
            rw [hp10.1, hp10.2]
            rw [(hR.sf k_s (by omega)).1]
            refine v_if_eq (pc := 35) (tgt := 45) F dX9_says_35 (by decide) (fun hno => ?_) (fun hno => ?_)
            · rw [b2i_0] at hno
              refine v_aload_n (pc := 45) (i := 3) F dX9_says_45 rfl rfl ?_
              refine v_getI (pc := 46) F fX9_105 dX9_says_46 rfl ho6 ?_
              refine v_topE (y := nI j5) ((hR.sf k_s (by omega)).1.trans hh) ?_
              refine v_bipush (pc := 49) (v := nI 10) F dX9_says_49 (by decide) ?_
              refine v_isub (pc := 51) F dX9_says_51 ?_
              refine v_istore (pc := 52) (lo' := [some (.ref _), some (.int _), some (.int _), some (.ref _), some (.int _), _]) F dX9_says_52 rfl (Nat.le_of_ble_eq_true rfl) rfl ?_
              refine v_aload_n (pc := 54) (i := 0) F dX9_says_54 rfl rfl ?_
              refine v_iload (pc := 55) (i := 4) F dX9_says_55 rfl ?_
              refine v_callVI (pc := 57) (As := [_]) (rest := []) (c := 9) F mX9_isLooker kX9_126 im_X9_isLooker se_X9_isLooker dX9_says_57 rfl rfl (by decide) (c_X9_isLooker _ n ν.1 _ (hS)) (by decide) rfl rfl (Nat.le_of_ble_eq_true rfl) lx0 (fun x12 μ12 hp12 => ?_)
              rw [hp12.1, hp12.2]
              refine v_if_eq (pc := 60) (tgt := 83) F dX9_says_60 (by decide) (fun hlk => ?_) (fun hlk => ?_)
              · rw [b2i_0] at hlk
                refine v_aload_n (pc := 83) (i := 0) F dX9_says_83 rfl rfl ?_
                refine v_bipush (pc := 84) (v := (-3)) F dX9_says_84 (by decide) ?_
                refine v_callVI (pc := 86) (As := [_]) (rest := []) (c := 9) F mX9_refuse kX9_79 im_X9_refuse se_X9_refuse dX9_says_86 rfl rfl (by decide) (c_X9_refuse (-3) 3 (by decide) (by decide) (by decide) _) (by decide) rfl rfl (Nat.le_of_ble_eq_true rfl) lx0 (fun x14 μ14 hp14 => ?_)
                rw [hp14.1, hp14.2]
                refine v_ireturn (pc := 89) F dX9_says_89 (rfl) ?_
                simp only [s_says, rj, hnn, h4_2, ek_s, hq_k, ek_k, h8_4, h14_5, hr5, hno, hlk, ↓reduceIte]
                exact ⟨(by first | exact trivial | exact rfl), Rel.rj hM hR (by decide)⟩
              · rw [b2i_0] at hlk
                rw [Classical.not_not] at hlk
                exact absurd hlk (in_no hn8 hj5)
            · rw [b2i_0] at hno
              rw [Classical.not_not] at hno
              rw [hh] at hno; exact absurd hno (j_m1 (by omega))
          · skip
            have hr5 : ¬ inQ 5 (ν.1 10 k_s) = true := by
              rw [hh]; intro z; obtain ⟨k0, q1, q2⟩ := inR_of (by decide) z; have := (nI_eq (by omega) (by omega)).mp q2; omega
            have hrn : ¬ ν.1 10 k_s = -1 := by rw [hh]; exact j_m1 (by omega)
            have hix : ix (ν.1 10 k_s) - 10 = l := by rw [hh, ix_nI (by omega)]; omega
            refine v_aload_n (pc := 31) (i := 3) F dX9_says_31 rfl rfl ?_
            refine v_callVI (pc := 32) (As := []) (rest := []) (c := 5) F mX5_isNothing kX9_91 im_X5_isNothing se_X5_isNothing dX9_says_32 rfl rfl (by decide) (c_X5_isNothing _ ho6 _) (by decide) rfl rfl (Nat.le_of_ble_eq_true rfl) ho6 (fun x15 μ15 hp15 => ?_)
            rw [hp15.1, hp15.2]
            rw [(hR.sf k_s (by omega)).1]
            refine v_if_eq (pc := 35) (tgt := 45) F dX9_says_35 (by decide) (fun hno => ?_) (fun hno => ?_)
            · rw [b2i_0] at hno
              refine v_aload_n (pc := 45) (i := 3) F dX9_says_45 rfl rfl ?_
              refine v_getI (pc := 46) F fX9_105 dX9_says_46 rfl ho6 ?_
              refine v_topE (y := nI ((10 + l))) ((hR.sf k_s (by omega)).1.trans hh) ?_
              refine v_bipush (pc := 49) (v := nI 10) F dX9_says_49 (by decide) ?_
              refine v_isub (pc := 51) F dX9_says_51 ?_
              refine v_topE (y := nI l) (h10_sub) ?_
              refine v_istore (pc := 52) (lo' := [some (.ref _), some (.int _), some (.int _), some (.ref _), some (.int _), _]) F dX9_says_52 rfl (Nat.le_of_ble_eq_true rfl) rfl ?_
              refine v_aload_n (pc := 54) (i := 0) F dX9_says_54 rfl rfl ?_
              refine v_iload (pc := 55) (i := 4) F dX9_says_55 rfl ?_
              refine v_callVI (pc := 57) (As := [_]) (rest := []) (c := 9) F mX9_isLooker kX9_126 im_X9_isLooker se_X9_isLooker dX9_says_57 rfl rfl (by decide) (c_X9_isLooker _ n ν.1 _ (hS)) (by decide) rfl rfl (Nat.le_of_ble_eq_true rfl) lx0 (fun x17 μ17 hp17 => ?_)
              rw [hp17.1, hp17.2]
              refine v_if_eq (pc := 60) (tgt := 83) F dX9_says_60 (by decide) (fun hlk => ?_) (fun hlk => ?_)
              · rw [b2i_0] at hlk
                exact absurd ((inR_iff (by omega)).mpr ⟨l, hl, rfl⟩) hlk
              · rw [b2i_0] at hlk
                rw [Classical.not_not] at hlk
                refine v_aload_n (pc := 63) (i := 0) F dX9_says_63 rfl rfl ?_
                refine v_getR (pc := 64) (o := 1) F fX9_12 dX9_says_64 rfl lx0 ?_
                refine v_topR (y := 1) rfl ?_
                refine v_getR (pc := 67) (o := 3) F fX9_135 dX9_says_67 rfl (lx9_0 lx0) ?_
                refine v_topR (y := 4) rfl ?_
                refine v_iload (pc := 70) (i := 4) F dX9_says_70 rfl ?_
                refine v_aald14N (pc := 72) (k0 := l) (x := 6 + 2 * l) F dX9_says_72 (lx4_2 (lx9_0 lx0)) (rfl) (by omega) (by decide) (by simp only [j_ro]; first | rfl | omega | (split <;> omega)) ?_
                have ho19 : j_ob ΛX (6 + 2 * l) 3 := by
                  have q := lxL (lx4_2 (lx9_0 lx0)) (j := l) (by omega)
                  simp only [j_ro] at q
                  exact (by first | exact q | (rw [show 6 + 2 * l = _ from (by first | rfl | omega)]; exact q))
                refine v_getI (pc := 73) F fX9_139 dX9_says_73 rfl ho19 ?_
                refine v_topE (y := (ν.1 2 l)) ((hS.1.lk l (by omega)).k) ?_
                refine v_iload_n (pc := 76) (i := 2) F dX9_says_76 rfl rfl ?_
                refine v_callSI (pc := 77) (As := [_, _]) (rest := []) F mX9_isOfKind kX9_144 sm_X9_isOfKind dX9_says_77 (c_X9_isOfKind _ _ _) (by decide) rfl rfl (Nat.le_of_ble_eq_true rfl) (fun x20 μ20 hp20 => ?_)
                rw [hp20.1, hp20.2]
                refine v_if_ne (pc := 80) (tgt := 90) F dX9_says_80 (by decide) (fun hub => ?_) (fun hub => ?_)
                · rw [b2i_0] at hub
                  rw [Classical.not_not] at hub
                  refine v_aload_n (pc := 90) (i := 0) F dX9_says_90 rfl rfl ?_
                  refine v_getR (pc := 91) (o := 1) F fX9_12 dX9_says_91 rfl lx0 ?_
                  refine v_topR (y := 1) rfl ?_
                  refine v_getR (pc := 94) (o := 3) F fX9_135 dX9_says_94 rfl (lx9_0 lx0) ?_
                  refine v_topR (y := 4) rfl ?_
                  refine v_iload (pc := 97) (i := 4) F dX9_says_97 rfl ?_
                  refine v_aald14N (pc := 99) (k0 := l) (x := 6 + 2 * l) F dX9_says_99 (lx4_2 (lx9_0 lx0)) (rfl) (by omega) (by decide) (by simp only [j_ro]; first | rfl | omega | (split <;> omega)) ?_
                  have ho22 : j_ob ΛX (6 + 2 * l) 3 := by
                    have q := lxL (lx4_2 (lx9_0 lx0)) (j := l) (by omega)
                    simp only [j_ro] at q
                    exact (by first | exact q | (rw [show 6 + 2 * l = _ from (by first | rfl | omega)]; exact q))
                  refine v_astore (pc := 100) (lo' := [some (.ref _), some (.int _), some (.int _), some (.ref _), some (.int _), some (.ref _)]) F dX9_says_100 rfl (Nat.le_of_ble_eq_true rfl) rfl ?_
                  refine v_iload_n (pc := 102) (i := 2) F dX9_says_102 rfl rfl ?_
                  refine v_if_ne (pc := 103) (tgt := 114) F dX9_says_103 (by decide) (fun hk0 => ?_) (fun hk0 => ?_)
                  · rw [j_eq0 (by omega)] at hk0
                    refine v_aload_n (pc := 114) (i := 0) F dX9_says_114 rfl rfl ?_
                    refine v_getR (pc := 115) (o := 1) F fX9_12 dX9_says_115 rfl lx0 ?_
                    refine v_topR (y := 1) rfl ?_
                    refine v_aload (pc := 118) (i := 5) F dX9_says_118 rfl ?_
                    refine v_aload_n (pc := 120) (i := 0) F dX9_says_120 rfl rfl ?_
                    refine v_getR (pc := 121) (o := 1) F fX9_12 dX9_says_121 rfl lx0 ?_
                    refine v_topR (y := 1) rfl ?_
                    refine v_getI (pc := 124) F fX9_150 dX9_says_124 rfl (lx9_0 lx0) ?_
                    refine v_topE (y := (lfB (ν.1 1))) (hS.1.fil) ?_
                    refine v_callVI (pc := 127) (As := [_, _]) (rest := []) (c := 4) F mX4_takes kX9_153 im_X4_takes se_X4_takes dX9_says_127 rfl rfl (by decide) (c_X4_takes 1 (lx9_0 lx0) n ν.1 _ (hS) l ho22 hW (by omega) ((ν.1 1)) UU.self) (by decide) rfl rfl (Nat.le_of_ble_eq_true rfl) (lx9_0 lx0) (fun x24 μ24 hp24 => ?_)
                    rw [hp24.1, hp24.2]
                    refine v_ireturn (pc := 130) F dX9_says_130 (rfl) ?_
                    rw [← tE_one hl hn8]
                    have hk0 : (nI k_k = 0) = False := eq_false (by rw [j_eq0 (by omega)]; exact hk0)
                    simp only [s_says, hnn, h4_2, ek_s, hq_k, ek_k, h8_4, h14_5, hr5, hrn, hix, hno, hlk, hub, hk0, hk0, ↓reduceIte]
                    refine ⟨?_, ?_⟩ <;> first | exact trivial | exact rfl | exact hR
                  · rw [j_eq0 (by omega)] at hk0
                    refine v_aload (pc := 106) (i := 5) F dX9_says_106 rfl ?_
                    refine v_getI (pc := 108) F fX9_147 dX9_says_108 rfl ho22 ?_
                    refine v_topE (y := (ν.1 4 l)) ((hS.1.lk l (by omega)).g) ?_
                    refine v_goto (pc := 111) (tgt := 130) F dX9_says_111 (by decide) ?_
                    refine v_ireturn (pc := 130) F dX9_says_130 (rfl) ?_
                    have hk0 : (nI k_k = 0) = True := eq_true (by rw [j_eq0 (by omega)]; exact hk0)
                    simp only [s_says, hnn, h4_2, ek_s, hq_k, ek_k, h8_4, h14_5, hr5, hrn, hix, hno, hlk, hub, hk0, hk0, ↓reduceIte]
                    refine ⟨?_, ?_⟩ <;> first | exact trivial | exact rfl | exact hR
                · rw [b2i_0] at hub
                  refine v_aload_n (pc := 83) (i := 0) F dX9_says_83 rfl rfl ?_
                  refine v_bipush (pc := 84) (v := (-3)) F dX9_says_84 (by decide) ?_
                  refine v_callVI (pc := 86) (As := [_]) (rest := []) (c := 9) F mX9_refuse kX9_79 im_X9_refuse se_X9_refuse dX9_says_86 rfl rfl (by decide) (c_X9_refuse (-3) 3 (by decide) (by decide) (by decide) _) (by decide) rfl rfl (Nat.le_of_ble_eq_true rfl) lx0 (fun x25 μ25 hp25 => ?_)
                  rw [hp25.1, hp25.2]
                  refine v_ireturn (pc := 89) F dX9_says_89 (rfl) ?_
                  simp only [s_says, rj, hnn, h4_2, ek_s, hq_k, ek_k, h8_4, h14_5, hr5, hrn, hix, hno, hlk, hub, ↓reduceIte]
                  exact ⟨(by first | exact trivial | exact rfl), Rel.rj hM hR (by decide)⟩
            · rw [b2i_0] at hno
              rw [Classical.not_not] at hno
              rw [hh] at hno; exact absurd hno (j_m1 (by omega))
        · rw [nI_ltI (by omega) (by omega)] at h14_5
          omega
    · skip
      refine v_iload_n (pc := 7) (i := 2) F dX9_says_7 rfl rfl ?_
      refine v_if_lt (pc := 8) (tgt := 17) F dX9_says_8 (by decide) (fun hneg_k => ?_) (fun hneg_k => ?_)
      · skip
        refine v_aload_n (pc := 17) (i := 0) F dX9_says_17 rfl rfl ?_
        refine v_bipush (pc := 18) (v := (-2)) F dX9_says_18 (by decide) ?_
        refine v_callVI (pc := 20) (As := [_]) (rest := []) (c := 9) F mX9_refuse kX9_79 im_X9_refuse se_X9_refuse dX9_says_20 rfl rfl (by decide) (c_X9_refuse (-2) 2 (by decide) (by decide) (by decide) _) (by decide) rfl rfl (Nat.le_of_ble_eq_true rfl) lx0 (fun x27 μ27 hp27 => ?_)
        rw [hp27.1, hp27.2]
        refine v_ireturn (pc := 23) F dX9_says_23 (rfl) ?_
        simp only [s_says, rj, hnn, h4_2, ek_s, hq_k, hneg_k, ↓reduceIte]
        refine ⟨?_, ?_⟩ <;> first | exact trivial | exact rfl | exact hR | exact Rel.rj hM hR (by decide)
      · skip
        refine v_iload_n (pc := 11) (i := 2) F dX9_says_11 rfl rfl ?_
        refine v_bipush (pc := 12) (v := nI 6) F dX9_says_12 (by decide) ?_
        refine v_icmp_lt (pc := 14) (tgt := 24) F dX9_says_14 (by decide) (fun h14_28 => ?_) (fun h14_28 => ?_)
        · skip
          exact (inQ_no hq_k hneg_k h14_28).elim
        · skip
          refine v_aload_n (pc := 17) (i := 0) F dX9_says_17 rfl rfl ?_
          refine v_bipush (pc := 18) (v := (-2)) F dX9_says_18 (by decide) ?_
          refine v_callVI (pc := 20) (As := [_]) (rest := []) (c := 9) F mX9_refuse kX9_79 im_X9_refuse se_X9_refuse dX9_says_20 rfl rfl (by decide) (c_X9_refuse (-2) 2 (by decide) (by decide) (by decide) _) (by decide) rfl rfl (Nat.le_of_ble_eq_true rfl) lx0 (fun x29 μ29 hp29 => ?_)
          rw [hp29.1, hp29.2]
          refine v_ireturn (pc := 23) F dX9_says_23 (rfl) ?_
          simp only [s_says, rj, hnn, h4_2, ek_s, hq_k, hneg_k, h14_28, ↓reduceIte]
          refine ⟨?_, ?_⟩ <;> first | exact trivial | exact rfl | exact hR | exact Rel.rj hM hR (by decide)

set_option maxRecDepth 100000 in
theorem c_X7_clear (x : Nat) (hx : j_ob ΛX x 7) (μ : j_M) : Ct yX7_clear cX7_clear 1 none 0 ΛX [.ref x] μ (pV fun μ2 => μ2 = j_pI μ x 1 (nI 0)) := by
  refine Ct.go (lo := [some (.ref x)]) (by decide) (Nat.le_of_ble_eq_true rfl) rfl rfl (fun X F => ?_)
  have F : Fx X cX7_clear RX7 0 none ΛX := F
  refine v_aload_n (pc := 0) (i := 0) F dX7_clear_0 rfl rfl ?_
  refine v_iconst (pc := 1) (v := nI 0) F dX7_clear_1 (by decide) ?_
  refine v_put (pc := 2) F fX7_19 dX7_clear_2 rfl rfl rfl hx ?_
  refine v_return (pc := 5) F dX7_clear_5 ?_
  rfl

set_option maxRecDepth 100000 in
theorem c_X7_add (x : Nat) (hx : j_ob ΛX x 7) (v : Int32) (t : Nat) (μ : j_M) (ht : μ.1 x 1 = nI t) (ht2 : t ≤ 250) : Ct yX7_add cX7_add 2 (some .boolean) 0 ΛX [.ref x, .int v] μ (pI fun r μ2 => (r = b2i (t < 250)) ∧ μ2 = (if t < 250 then j_pI (j_pI μ (x + 1) t v) x 1 (nI (t + 1)) else μ)) := by
  refine Ct.go (lo := [some (.ref x), some (.int v)]) (by decide) (Nat.le_of_ble_eq_true rfl) rfl rfl (fun X F => ?_)
  have F : Fx X cX7_add RX7 0 (some .boolean) ΛX := F
  refine v_aload_n (pc := 0) (i := 0) F dX7_add_0 rfl rfl ?_
  refine v_getI (pc := 1) F fX7_19 dX7_add_1 rfl hx ?_
  refine v_topE (y := nI t) (ht) ?_
  refine v_sipush (pc := 4) (v := nI 250) F dX7_add_4 (by decide) ?_
  refine v_icmp_lt (pc := 7) (tgt := 12) F dX7_add_7 (by decide) (fun hlt => ?_) (fun hlt => ?_)
  · rw [nI_ltI (by omega) (by omega)] at hlt
    refine v_aload_n (pc := 12) (i := 0) F dX7_add_12 rfl rfl ?_
    refine v_getR (pc := 13) (o := 1) F fX7_9 dX7_add_13 rfl hx ?_
    refine v_topR (y := x + 1) rfl ?_
    refine v_aload_n (pc := 16) (i := 0) F dX7_add_16 rfl rfl ?_
    refine v_getI (pc := 17) F fX7_19 dX7_add_17 rfl hx ?_
    refine v_topE (y := nI t) (ht) ?_
    refine v_iload_n (pc := 20) (i := 1) F dX7_add_20 rfl rfl ?_
    refine v_iastN (pc := 21) (k0 := t) F dX7_add_21 (lx7_0 hx) (rfl) (by omega) (by decide) ?_
    refine v_aload_n (pc := 22) (i := 0) F dX7_add_22 rfl rfl ?_
    refine v_dup (pc := 23) F dX7_add_23 rfl ?_
    refine v_getI (pc := 24) F fX7_19 dX7_add_24 rfl hx ?_
    refine v_topE (y := nI t) ((j_pI_off (by omega)).trans (ht)) ?_
    refine v_iconst (pc := 27) (v := nI 1) F dX7_add_27 (by decide) ?_
    refine v_iadd (pc := 28) F dX7_add_28 ?_
    refine v_topE (nI_add _ _) ?_
    refine v_put (pc := 29) F fX7_19 dX7_add_29 rfl rfl rfl hx ?_
    refine v_iconst (pc := 32) (v := nI 1) F dX7_add_32 (by decide) ?_
    refine v_ireturn (pc := 33) F dX7_add_33 (rfl) ?_
    exact ⟨b2i_y (by omega), (if_pos (by omega)).symm⟩
  · rw [nI_ltI (by omega) (by omega)] at hlt
    refine v_iconst (pc := 10) (v := nI 0) F dX7_add_10 (by decide) ?_
    refine v_ireturn (pc := 11) F dX7_add_11 (rfl) ?_
    exact ⟨b2i_n (by omega), (if_neg (by omega)).symm⟩

set_option maxRecDepth 100000 in
theorem c_X9_wipe  (μ ν : j_M) (hM : MI ν) (hR : Rel μ ν) : Ct yX9_wipe cX9_wipe 2 (some .int) 1 ΛX [.ref 0] μ (pI fun r μ2 => r = (s_wipe ν).1 ∧ Rel μ2 (s_wipe ν).2) := by
  refine Ct.go (lo := [some (.ref 0), none]) (by decide) (Nat.le_of_ble_eq_true rfl) rfl rfl (fun X F => ?_)
  have F : Fx X cX9_wipe RX9 1 (some .int) ΛX := F
  obtain ⟨n, hW, hsh, htp, him⟩ := id hM
  have hn := hW.1
  have hn8 := hW.2.1
  have hnn := nn_eq hn hn8
  have ho := hW.own
  have hpw := j_pw hn8
  have hS : SQ μ 1 ν.1 n := ⟨by have := hR.sc; rwa [hnn] at this, hn8⟩
  refine v_aload_n (pc := 0) (i := 0) F dX9_wipe_0 rfl rfl ?_
  refine v_getR (pc := 1) (o := 101) F fX9_60 dX9_wipe_1 rfl lx0 ?_
  refine v_topR (y := 101) rfl ?_
  refine v_getI (pc := 4) F fX9_209 dX9_wipe_4 rfl (lx9_9 lx0) ?_
  refine v_topE (y := (ν.1 0 11)) (hR.tq.1) ?_
  refine v_istore_n (pc := 7) (lo' := [some (.ref _), some (.int _)]) F dX9_wipe_7 rfl rfl (Nat.le_of_ble_eq_true rfl) rfl ?_
  refine v_aload_n (pc := 8) (i := 0) F dX9_wipe_8 rfl rfl ?_
  refine v_getR (pc := 9) (o := 101) F fX9_60 dX9_wipe_9 rfl lx0 ?_
  refine v_topR (y := 101) rfl ?_
  refine v_callVV (pc := 12) (As := []) (rest := []) (c := 7) F mX7_clear kX9_210 im_X7_clear se_X7_clear dX9_wipe_12 rfl rfl (by decide) (c_X7_clear _ (lx9_9 lx0) _) (by decide) rfl rfl (Nat.le_of_ble_eq_true rfl) (lx9_9 lx0) (fun μ1 hp1 => ?_)
  rw [hp1]
  refine v_iload_n (pc := 15) (i := 1) F dX9_wipe_15 rfl rfl ?_
  refine v_ireturn (pc := 16) F dX9_wipe_16 (rfl) ?_
  exact ⟨(by first | exact trivial | exact rfl), hR.wip hM⟩

set_option maxRecDepth 100000 in
theorem c_X9_feed (c : Int32) (μ ν : j_M) (hM : MI ν) (hR : Rel μ ν) : Ct yX9_feed cX9_feed 2 (some .int) 2 ΛX [.ref 0, .int c] μ (pI fun r μ2 => r = (s_feed c ν).1 ∧ Rel μ2 (s_feed c ν).2) := by
  refine Ct.go (lo := [some (.ref 0), some (.int c)]) (by decide) (Nat.le_of_ble_eq_true rfl) rfl rfl (fun X F => ?_)
  have F : Fx X cX9_feed RX9 2 (some .int) ΛX := F
  obtain ⟨n, hW, hsh, htp, him⟩ := id hM
  have hn := hW.1
  have hn8 := hW.2.1
  have hnn := nn_eq hn hn8
  have ho := hW.own
  have hpw := j_pw hn8
  have hS : SQ μ 1 ν.1 n := ⟨by have := hR.sc; rwa [hnn] at this, hn8⟩
  by_cases hq_c : inQ 256 c = true
  · skip
    obtain ⟨k_c, hk_c, he_c⟩ := inR_of (by decide) hq_c
    subst he_c
    have ek_c : ix (nI k_c) = k_c := nI_clamp (by omega)
    refine v_iload_n (pc := 0) (i := 1) F dX9_feed_0 rfl rfl ?_
    refine v_if_lt (pc := 1) (tgt := 11) F dX9_feed_1 (by decide) (fun h1_1 => ?_) (fun h1_1 => ?_)
    · rw [j_lt0 (by omega)] at h1_1
      exact h1_1.elim
    · rw [j_lt0 (by omega)] at h1_1
      refine v_iload_n (pc := 4) (i := 1) F dX9_feed_4 rfl rfl ?_
      refine v_sipush (pc := 5) (v := nI 256) F dX9_feed_5 (by decide) ?_
      refine v_icmp_lt (pc := 8) (tgt := 18) F dX9_feed_8 (by decide) (fun h8_2 => ?_) (fun h8_2 => ?_)
      · rw [nI_ltI (by omega) (by omega)] at h8_2
        obtain ⟨t, ht250, ht⟩ := htp
        have ekt : ix (ν.1 0 11) = t := by rw [ht]; exact ix_nI (by omega)
        refine v_aload_n (pc := 18) (i := 0) F dX9_feed_18 rfl rfl ?_
        refine v_getR (pc := 19) (o := 101) F fX9_60 dX9_feed_19 rfl lx0 ?_
        refine v_topR (y := 101) rfl ?_
        refine v_iload_n (pc := 22) (i := 1) F dX9_feed_22 rfl rfl ?_
        refine v_callVI (pc := 23) (As := [_]) (rest := []) (c := 7) F mX7_add kX9_207 im_X7_add se_X7_add dX9_feed_23 rfl rfl (by decide) (c_X7_add _ (lx9_9 lx0) _ t _ (hR.tq.1.trans ht) ht250) (by decide) rfl rfl (Nat.le_of_ble_eq_true rfl) (lx9_9 lx0) (fun x3 μ3 hp3 => ?_)
        skip
        by_cases hlt : t < 250
        · skip
          have hq3 := hp3.2
          rw [if_pos hlt] at hq3
          rw [hq3]
          refine v_topE (y := nI 1) (hp3.1.trans (b2i_t hlt)) ?_
          refine v_if_eq (pc := 26) (tgt := 39) F dX9_feed_26 (by decide) (fun h26_4 => ?_) (fun h26_4 => ?_)
          · rw [j_eq0 (by omega)] at h26_4
            exact absurd h26_4 (by decide)
          · rw [j_eq0 (by omega)] at h26_4
            refine v_aload_n (pc := 29) (i := 0) F dX9_feed_29 rfl rfl ?_
            refine v_getR (pc := 30) (o := 101) F fX9_60 dX9_feed_30 rfl lx0 ?_
            refine v_topR (y := 101) rfl ?_
            refine v_getI (pc := 33) F fX9_209 dX9_feed_33 rfl (lx9_9 lx0) ?_
            refine v_topE (y := nI ((t + 1))) (j_pI_at) ?_
            refine v_goto (pc := 36) (tgt := 45) F dX9_feed_36 (by decide) ?_
            refine v_ireturn (pc := 45) F dX9_feed_45 (rfl) ?_
            have h250 : ¬ t = 250 := by omega
            simp only [s_feed, hnn, hq_c, ek_c, h1_1, h8_2, ekt, h26_4, h250, ↓reduceIte]
            exact ⟨(by first | exact trivial | exact rfl), hR.tap hM hlt⟩
        · skip
          have hq3 := hp3.2
          rw [if_neg hlt] at hq3
          rw [hq3]
          refine v_topE (y := nI 0) (hp3.1.trans (b2i_f hlt)) ?_
          refine v_if_eq (pc := 26) (tgt := 39) F dX9_feed_26 (by decide) (fun h26_5 => ?_) (fun h26_5 => ?_)
          · rw [j_eq0 (by omega)] at h26_5
            refine v_aload_n (pc := 39) (i := 0) F dX9_feed_39 rfl rfl ?_
            refine v_bipush (pc := 40) (v := (-6)) F dX9_feed_40 (by decide) ?_
            refine v_callVI (pc := 42) (As := [_]) (rest := []) (c := 9) F mX9_refuse kX9_79 im_X9_refuse se_X9_refuse dX9_feed_42 rfl rfl (by decide) (c_X9_refuse (-6) 6 (by decide) (by decide) (by decide) _) (by decide) rfl rfl (Nat.le_of_ble_eq_true rfl) lx0 (fun x6 μ6 hp6 => ?_)
            rw [hp6.1, hp6.2]
            refine v_ireturn (pc := 45) F dX9_feed_45 (rfl) ?_
            have h250 : t = 250 := by omega
            simp only [s_feed, rj, hnn, hq_c, ek_c, h1_1, h8_2, ekt, h26_5, h250, ↓reduceIte]
            exact ⟨(by first | exact trivial | exact rfl), Rel.rj hM hR (by decide)⟩
          · rw [j_eq0 (by omega)] at h26_5
            exact absurd h26_5 (by decide)
      · rw [nI_ltI (by omega) (by omega)] at h8_2
        omega
  · skip
    refine v_iload_n (pc := 0) (i := 1) F dX9_feed_0 rfl rfl ?_
    refine v_if_lt (pc := 1) (tgt := 11) F dX9_feed_1 (by decide) (fun hneg_c => ?_) (fun hneg_c => ?_)
    · skip
      refine v_aload_n (pc := 11) (i := 0) F dX9_feed_11 rfl rfl ?_
      refine v_bipush (pc := 12) (v := (-2)) F dX9_feed_12 (by decide) ?_
      refine v_callVI (pc := 14) (As := [_]) (rest := []) (c := 9) F mX9_refuse kX9_79 im_X9_refuse se_X9_refuse dX9_feed_14 rfl rfl (by decide) (c_X9_refuse (-2) 2 (by decide) (by decide) (by decide) _) (by decide) rfl rfl (Nat.le_of_ble_eq_true rfl) lx0 (fun x8 μ8 hp8 => ?_)
      rw [hp8.1, hp8.2]
      refine v_ireturn (pc := 17) F dX9_feed_17 (rfl) ?_
      simp only [s_feed, rj, hnn, hq_c, hneg_c, ↓reduceIte]
      refine ⟨?_, ?_⟩ <;> first | exact trivial | exact rfl | exact hR | exact Rel.rj hM hR (by decide)
    · skip
      refine v_iload_n (pc := 4) (i := 1) F dX9_feed_4 rfl rfl ?_
      refine v_sipush (pc := 5) (v := nI 256) F dX9_feed_5 (by decide) ?_
      refine v_icmp_lt (pc := 8) (tgt := 18) F dX9_feed_8 (by decide) (fun h8_9 => ?_) (fun h8_9 => ?_)
      · skip
        exact (inQ_no hq_c hneg_c h8_9).elim
      · skip
        refine v_aload_n (pc := 11) (i := 0) F dX9_feed_11 rfl rfl ?_
        refine v_bipush (pc := 12) (v := (-2)) F dX9_feed_12 (by decide) ?_
        refine v_callVI (pc := 14) (As := [_]) (rest := []) (c := 9) F mX9_refuse kX9_79 im_X9_refuse se_X9_refuse dX9_feed_14 rfl rfl (by decide) (c_X9_refuse (-2) 2 (by decide) (by decide) (by decide) _) (by decide) rfl rfl (Nat.le_of_ble_eq_true rfl) lx0 (fun x10 μ10 hp10 => ?_)
        rw [hp10.1, hp10.2]
        refine v_ireturn (pc := 17) F dX9_feed_17 (rfl) ?_
        simp only [s_feed, rj, hnn, hq_c, hneg_c, h8_9, ↓reduceIte]
        refine ⟨?_, ?_⟩ <;> first | exact trivial | exact rfl | exact hR | exact Rel.rj hM hR (by decide)

set_option maxRecDepth 100000 in
theorem c_X9_seed (v : Int32) (μ ν : j_M) (hM : MI ν) (hR : Rel μ ν) : Ct yX9_seed cX9_seed 3 (some .int) 0 ΛX [.ref 0, .int v] μ (pI fun r μ2 => r = (s_seed v ν).1 ∧ Rel μ2 (s_seed v ν).2) := by
  refine Ct.go (lo := [some (.ref 0), some (.int v), none]) (by decide) (Nat.le_of_ble_eq_true rfl) rfl rfl (fun X F => ?_)
  have F : Fx X cX9_seed RX9 0 (some .int) ΛX := F
  obtain ⟨n, hW, hsh, htp, him⟩ := id hM
  have hn := hW.1
  have hn8 := hW.2.1
  have hnn := nn_eq hn hn8
  have ho := hW.own
  have hpw := j_pw hn8
  have hS : SQ μ 1 ν.1 n := ⟨by have := hR.sc; rwa [hnn] at this, hn8⟩
  refine v_aload_n (pc := 0) (i := 0) F dX9_seed_0 rfl rfl ?_
  refine v_getR (pc := 1) (o := 1) F fX9_12 dX9_seed_1 rfl lx0 ?_
  refine v_topR (y := 1) rfl ?_
  refine v_getI (pc := 4) F fX9_374 dX9_seed_4 rfl (lx9_0 lx0) ?_
  refine v_topE (y := (ν.1 0 10)) (hS.1.sed) ?_
  refine v_istore_n (pc := 7) (lo' := [some (.ref _), some (.int _), some (.int _)]) F dX9_seed_7 rfl rfl (Nat.le_of_ble_eq_true rfl) rfl ?_
  refine v_aload_n (pc := 8) (i := 0) F dX9_seed_8 rfl rfl ?_
  refine v_getR (pc := 9) (o := 1) F fX9_12 dX9_seed_9 rfl lx0 ?_
  refine v_topR (y := 1) rfl ?_
  refine v_iload_n (pc := 12) (i := 1) F dX9_seed_12 rfl rfl ?_
  refine v_put (pc := 13) F fX9_374 dX9_seed_13 rfl rfl rfl (lx9_0 lx0) ?_
  refine v_iload_n (pc := 16) (i := 2) F dX9_seed_16 rfl rfl ?_
  refine v_ireturn (pc := 17) F dX9_seed_17 (rfl) ?_
  exact ⟨(by first | exact trivial | exact rfl), hR.sed hM⟩
