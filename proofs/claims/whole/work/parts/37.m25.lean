/-! the reference's tokens -/
abbrev PT (c j : Nat) : Prop := c = 0 ∧ 13 ≤ j ∧ j ≤ 16
theorem PT_PS {a b : j_M} (h : Fm PT a b) : Fm PS a b := h.mono (fun c j q => Or.inr ⟨q.1, Or.inl q.2⟩)
def NX (μ : j_M) (t a : Nat) (μ2 : j_M) : Prop := Fm PT μ μ2 ∧ μ2.1 0 13 = nI (tkF (μ.1 9) t a) ∧ μ2.1 0 14 = nI (tkT (μ.1 9) t a) ∧ μ2.1 0 15 = tkK (μ.1 9) t a ∧ (μ2.1 0 15 = nI 48 → μ2.1 0 16 = tkV (μ.1 9) t a)
theorem PT_9 {a b : j_M} (h : Fm PT a b) : b.1 9 = a.1 9 := funext fun j => h.1 9 j (by unfold PT; omega)
theorem isB_iff {c : Int32} : (isB c = true) = (c = nI 32) := by unfold isB; simp

set_option maxRecDepth 100000 in
theorem c_X10_next (t a : Nat) (μ : j_M) (ht : μ.1 0 11 = nI t) (ht2 : t ≤ 250) (ha : μ.1 0 14 = nI a) (hat : a ≤ t) : Ct yX10_next cX10_next 2 none 2 ΛM [.ref 0] μ (pV fun μ2 => NX μ t a μ2) := by
  refine Ct.go (lo := [some (.ref 0), none]) (by decide) (Nat.le_of_ble_eq_true rfl) rfl rfl (fun X F => ?_)
  have F : Fx X cX10_next RX10 2 none ΛM := F
  refine v_aload_n (pc := 0) (i := 0) F dX10_next_0 rfl rfl ?_
  refine v_aload_n (pc := 1) (i := 0) F dX10_next_1 rfl rfl ?_
  refine v_getI (pc := 2) F fX10_134 dX10_next_2 rfl lm0 ?_
  refine v_topE (ha) ?_
  refine v_put (pc := 5) F fX10_137 dX10_next_5 rfl rfl rfl lm0 ?_
  refine j_up t (fun k => ∀ μ1 : j_M, (Fm PT μ μ1 ∧ μ1.1 0 13 = nI k ∧ μ1.1 0 14 = nI a ∧ a ≤ k ∧ scan isB (μ.1 9) t a = scan isB (μ.1 9) t k) → V X _ 8 [some (.ref 0), none] [] μ1) (fun k hk ih μ1 hI => ?_) a (hat) ((j_pI μ 0 13 (nI a))) (⟨Fm.rf.pI ⟨rfl, by omega, by omega⟩, j_pI_at, (j_pI_off (by omega)).trans ha, Nat.le_refl _, rfl⟩)
  refine v_aload_n (pc := 8) (i := 0) F dX10_next_8 rfl rfl ?_
  refine v_getI (pc := 9) F fX10_137 dX10_next_9 rfl lm0 ?_
  refine v_topE (hI.2.1) ?_
  refine v_aload_n (pc := 12) (i := 0) F dX10_next_12 rfl rfl ?_
  refine v_getI (pc := 13) F fX10_131 dX10_next_13 rfl lm0 ?_
  refine v_topE ((hI.1.1 0 11 (by omega)).trans ht) ?_
  refine v_icmp_ge (pc := 16) (tgt := 46) F dX10_next_16 (by decide) (fun hg => ?_) (fun hg => ?_)
  · rw [nI_leI (by omega) (by omega)] at hg
    have hf : tkF (μ.1 9) t a = k := by
      unfold tkF; rw [hI.2.2.2.2]
      first | exact scan_n (by omega) | exact scan_f (by rw [isB_iff]; exact hb)
    have hw3 : Fm PT μ (j_pI μ1 0 14 (nI k)) := hI.1.pI ⟨rfl, by omega, by omega⟩
    refine v_aload_n (pc := 46) (i := 0) F dX10_next_46 rfl rfl ?_
    refine v_aload_n (pc := 47) (i := 0) F dX10_next_47 rfl rfl ?_
    refine v_getI (pc := 48) F fX10_137 dX10_next_48 rfl lm0 ?_
    refine v_topE (hI.2.1) ?_
    refine v_put (pc := 51) F fX10_134 dX10_next_51 rfl rfl rfl lm0 ?_
    refine v_aload_n (pc := 54) (i := 0) F dX10_next_54 rfl rfl ?_
    refine v_getI (pc := 55) F fX10_137 dX10_next_55 rfl lm0 ?_
    refine v_topE (hI.2.1) ?_
    refine v_aload_n (pc := 58) (i := 0) F dX10_next_58 rfl rfl ?_
    refine v_getI (pc := 59) F fX10_131 dX10_next_59 rfl lm0 ?_
    refine v_topE ((hI.1.1 0 11 (by omega)).trans ht) ?_
    refine v_icmp_ne (pc := 62) (tgt := 72) F dX10_next_62 (by decide) (fun hkt => ?_) (fun hkt => ?_)
    · rw [nI_eq (by omega) (by omega)] at hkt
      refine v_aload_n (pc := 72) (i := 0) F dX10_next_72 rfl rfl ?_
      refine v_getR (pc := 73) (o := 9) F fX10_34 dX10_next_73 rfl lm0 ?_
      refine v_topR (y := 9) rfl ?_
      refine v_aload_n (pc := 76) (i := 0) F dX10_next_76 rfl rfl ?_
      refine v_dup (pc := 77) F dX10_next_77 rfl ?_
      refine v_getI (pc := 78) F fX10_134 dX10_next_78 rfl lm0 ?_
      refine v_topE (y := nI k) (j_pI_at) ?_
      refine v_dup_x1 (pc := 81) F dX10_next_81 rfl rfl ?_
      refine v_iconst (pc := 82) (v := nI 1) F dX10_next_82 (by decide) ?_
      refine v_iadd (pc := 83) F dX10_next_83 ?_
      refine v_topE (nI_add _ _) ?_
      refine v_put (pc := 84) F fX10_134 dX10_next_84 rfl rfl rfl lm0 ?_
      refine v_ialdN (pc := 87) (k0 := k) F dX10_next_87 (lm10_12 lm0) (rfl) (by omega) (by decide) ?_
      refine v_istore_n (pc := 88) (lo' := [some (.ref _), some (.int _)]) F dX10_next_88 rfl rfl (Nat.le_of_ble_eq_true rfl) rfl ?_
      refine v_iload_n (pc := 89) (i := 1) F dX10_next_89 rfl rfl ?_
      refine v_callSI (pc := 90) (As := [_]) (rest := []) F mX10_isLetter kX10_143 sm_X10_isLetter dX10_next_90 (c_X10_isLetter _ _) (by decide) rfl rfl (Nat.le_of_ble_eq_true rfl) (fun x3 μ3 hp3 => ?_)
      rw [hp3.1, hp3.2]
      refine v_if_eq (pc := 93) (tgt := 144) F dX10_next_93 (by decide) (fun hL => ?_) (fun hL => ?_)
      · rw [b2i_0] at hL
        have eT := congrFun (PT_9 (hw3.pI (c := 0) (j := 14) (v := nI (k + 1)) ⟨rfl, by omega, by omega⟩)) k
        have hL3 : ¬ isL (μ.1 9 k) = true := by rw [← eT]; exact fun z => hL (inB_def.mp z)
        refine v_iload_n (pc := 144) (i := 1) F dX10_next_144 rfl rfl ?_
        refine v_callSI (pc := 145) (As := [_]) (rest := []) F mX10_isDigit kX10_146 sm_X10_isDigit dX10_next_145 (c_X10_isDigit _ _) (by decide) rfl rfl (Nat.le_of_ble_eq_true rfl) (fun x5 μ5 hp5 => ?_)
        rw [hp5.1, hp5.2]
        refine v_if_eq (pc := 148) (tgt := 262) F dX10_next_148 (by decide) (fun hD => ?_) (fun hD => ?_)
        · rw [b2i_0] at hD
          have hD3 : ¬ isD (μ.1 9 k) = true := by rw [← eT]; exact fun z => hD (inB_def.mp z)
          refine v_aload_n (pc := 262) (i := 0) F dX10_next_262 rfl rfl ?_
          refine v_iload_n (pc := 263) (i := 1) F dX10_next_263 rfl rfl ?_
          refine v_bipush (pc := 264) (v := nI 59) F dX10_next_264 (by decide) ?_
          refine v_icmp_ne (pc := 266) (tgt := 274) F dX10_next_266 (by decide) (fun hsc => ?_) (fun hsc => ?_)
          · skip
            refine v_bipush (pc := 274) (v := nI 120) F dX10_next_274 (by decide) ?_
            refine v_put (pc := 276) F fX10_140 dX10_next_276 rfl rfl rfl lm0 ?_
            refine v_return (pc := 279) F dX10_next_279 ?_
            have hT : tkT (μ.1 9) t a = k + 1 := by
              unfold tkT; rw [hf, if_neg hkt, if_neg hL3, if_neg hD3]
            refine ⟨(hw3.pI ⟨rfl, by omega, by omega⟩).pI ⟨rfl, by omega, by omega⟩, ?_, ?_, ?_, fun z => ?_⟩
            · rw [hf, j_pI_off (by omega), j_pI_off (by omega), j_pI_off (by omega)]; exact hI.2.1
            · rw [hT, j_pI_off (by omega), j_pI_at]
            · unfold tkK; rw [hf, if_neg hkt, if_neg hL3, if_neg hD3, j_pI_at, ← eT]; first | rw [if_pos hsc] | rw [if_neg hsc]
            · rw [j_pI_at] at z; exact absurd z (by decide)
          · skip
            refine v_bipush (pc := 269) (v := nI 59) F dX10_next_269 (by decide) ?_
            refine v_goto (pc := 271) (tgt := 276) F dX10_next_271 (by decide) ?_
            refine v_put (pc := 276) F fX10_140 dX10_next_276 rfl rfl rfl lm0 ?_
            refine v_return (pc := 279) F dX10_next_279 ?_
            have hT : tkT (μ.1 9) t a = k + 1 := by
              unfold tkT; rw [hf, if_neg hkt, if_neg hL3, if_neg hD3]
            refine ⟨(hw3.pI ⟨rfl, by omega, by omega⟩).pI ⟨rfl, by omega, by omega⟩, ?_, ?_, ?_, fun z => ?_⟩
            · rw [hf, j_pI_off (by omega), j_pI_off (by omega), j_pI_off (by omega)]; exact hI.2.1
            · rw [hT, j_pI_off (by omega), j_pI_at]
            · unfold tkK; rw [hf, if_neg hkt, if_neg hL3, if_neg hD3, j_pI_at, ← eT]; first | rw [if_pos hsc] | rw [if_neg hsc]
            · rw [j_pI_at] at z; exact absurd z (by decide)
        · rw [b2i_0] at hD
          rw [Classical.not_not] at hD
          have hD2 : isD (μ.1 9 k) = true := by rw [← eT]; exact inB_def.mpr hD
          refine v_aload_n (pc := 151) (i := 0) F dX10_next_151 rfl rfl ?_
          refine v_iload_n (pc := 152) (i := 1) F dX10_next_152 rfl rfl ?_
          refine v_bipush (pc := 153) (v := nI 48) F dX10_next_153 (by decide) ?_
          refine v_isub (pc := 155) F dX10_next_155 ?_
          refine v_put (pc := 156) F fX10_149 dX10_next_156 rfl rfl rfl lm0 ?_
          refine j_up t (fun x => ∀ μ2 : j_M, (Fm PT μ μ2 ∧ μ2.1 0 13 = nI k ∧ μ2.1 0 14 = nI x ∧ k + 1 ≤ x ∧ scan isD (μ.1 9) t (k + 1) = scan isD (μ.1 9) t x ∧ μ2.1 0 16 = (if 2 ≤ x - k then nI 10 * (μ.1 9 k - nI 48) + μ.1 9 (k + 1) - nI 48 else μ.1 9 k - nI 48)) → V X _ 159 [some (.ref 0), some (.int (((j_pI (j_pI μ1 0 14 (nI k)) 0 14 (nI (k + 1))).1 9 k)))] [] μ2) (fun x hx ihx μ2 hJ => ?_) ((k + 1)) (by omega) ((j_pI (j_pI (j_pI μ1 0 14 (nI k)) 0 14 (nI (k + 1))) 0 16 ((((j_pI (j_pI μ1 0 14 (nI k)) 0 14 (nI (k + 1))).1 9 k) - nI 48)))) (⟨(hw3.pI ⟨rfl, by omega, by omega⟩).pI ⟨rfl, by omega, by omega⟩, (j_pI_off (by omega)).trans ((j_pI_off (by omega)).trans ((j_pI_off (by omega)).trans hI.2.1)), (j_pI_off (by omega)).trans j_pI_at, Nat.le_refl _, rfl, by rw [j_pI_at, if_neg (by omega), eT]⟩)
          refine v_aload_n (pc := 159) (i := 0) F dX10_next_159 rfl rfl ?_
          refine v_getI (pc := 160) F fX10_134 dX10_next_160 rfl lm0 ?_
          refine v_topE (hJ.2.2.1) ?_
          refine v_aload_n (pc := 163) (i := 0) F dX10_next_163 rfl rfl ?_
          refine v_getI (pc := 164) F fX10_131 dX10_next_164 rfl lm0 ?_
          refine v_topE ((hJ.1.1 0 11 (by omega)).trans ht) ?_
          refine v_icmp_ge (pc := 167) (tgt := 235) F dX10_next_167 (by decide) (fun h167_8 => ?_) (fun h167_8 => ?_)
          · rw [nI_leI (by omega) (by omega)] at h167_8
            have hT : tkT (μ.1 9) t a = x := by
              unfold tkT; rw [hf, if_neg hkt, if_neg hL3, if_pos hD2, hJ.2.2.2.2.1]
              first | exact scan_n (by omega) | exact scan_f (fun z => hl2 (by rw [PT_9 hJ.1]; exact inB_def.mp z))
            refine v_aload_n (pc := 235) (i := 0) F dX10_next_235 rfl rfl ?_
            refine v_aload_n (pc := 236) (i := 0) F dX10_next_236 rfl rfl ?_
            refine v_getI (pc := 237) F fX10_134 dX10_next_237 rfl lm0 ?_
            refine v_topE (hJ.2.2.1) ?_
            refine v_aload_n (pc := 240) (i := 0) F dX10_next_240 rfl rfl ?_
            refine v_getI (pc := 241) F fX10_137 dX10_next_241 rfl lm0 ?_
            refine v_topE (hJ.2.1) ?_
            refine v_isub (pc := 244) F dX10_next_244 ?_
            refine v_topE (pk_sub (by omega)) ?_
            refine v_iconst (pc := 245) (v := nI 2) F dX10_next_245 (by decide) ?_
            refine v_icmp_le (pc := 246) (tgt := 254) F dX10_next_246 (by decide) (fun h246_9 => ?_) (fun h246_9 => ?_)
            · rw [nI_leI (by omega) (by omega)] at h246_9
              refine v_bipush (pc := 254) (v := nI 48) F dX10_next_254 (by decide) ?_
              refine v_put (pc := 256) F fX10_140 dX10_next_256 rfl rfl rfl lm0 ?_
              refine v_goto (pc := 259) (tgt := 279) F dX10_next_259 (by decide) ?_
              refine v_return (pc := 279) F dX10_next_279 ?_
              refine ⟨hJ.1.pI ⟨rfl, by omega, by omega⟩, ?_, ?_, ?_, fun z => ?_⟩
              · rw [hf, j_pI_off (by omega)]; exact hJ.2.1
              · rw [hT, j_pI_off (by omega)]; exact hJ.2.2.1
              · unfold tkK; rw [hT, hf, if_neg hkt, if_neg hL3, if_pos hD2, j_pI_at]; first | (rw [if_pos (by omega)]; done) | (rw [if_neg (by omega)]; done) | (exfalso; omega)
              · unfold tkV; rw [hT, hf, j_pI_off (by omega)]; exact hJ.2.2.2.2.2
            · rw [nI_leI (by omega) (by omega)] at h246_9
              refine v_bipush (pc := 249) (v := nI 120) F dX10_next_249 (by decide) ?_
              refine v_goto (pc := 251) (tgt := 256) F dX10_next_251 (by decide) ?_
              refine v_put (pc := 256) F fX10_140 dX10_next_256 rfl rfl rfl lm0 ?_
              refine v_goto (pc := 259) (tgt := 279) F dX10_next_259 (by decide) ?_
              refine v_return (pc := 279) F dX10_next_279 ?_
              refine ⟨hJ.1.pI ⟨rfl, by omega, by omega⟩, ?_, ?_, ?_, fun z => ?_⟩
              · rw [hf, j_pI_off (by omega)]; exact hJ.2.1
              · rw [hT, j_pI_off (by omega)]; exact hJ.2.2.1
              · unfold tkK; rw [hT, hf, if_neg hkt, if_neg hL3, if_pos hD2, j_pI_at]; first | (rw [if_pos (by omega)]; done) | (rw [if_neg (by omega)]; done) | (exfalso; omega)
              · unfold tkV; rw [hT, hf, j_pI_off (by omega)]; exact hJ.2.2.2.2.2
          · rw [nI_leI (by omega) (by omega)] at h167_8
            refine v_aload_n (pc := 170) (i := 0) F dX10_next_170 rfl rfl ?_
            refine v_getR (pc := 171) (o := 9) F fX10_34 dX10_next_171 rfl lm0 ?_
            refine v_topR (y := 9) rfl ?_
            refine v_aload_n (pc := 174) (i := 0) F dX10_next_174 rfl rfl ?_
            refine v_getI (pc := 175) F fX10_134 dX10_next_175 rfl lm0 ?_
            refine v_topE (hJ.2.2.1) ?_
            refine v_ialdN (pc := 178) (k0 := x) F dX10_next_178 (lm10_12 lm0) (rfl) (by omega) (by decide) ?_
            refine v_callSI (pc := 179) (As := [_]) (rest := []) F mX10_isDigit kX10_146 sm_X10_isDigit dX10_next_179 (c_X10_isDigit _ _) (by decide) rfl rfl (Nat.le_of_ble_eq_true rfl) (fun x10 μ10 hp10 => ?_)
            rw [hp10.1, hp10.2]
            refine v_if_eq (pc := 182) (tgt := 235) F dX10_next_182 (by decide) (fun hl2 => ?_) (fun hl2 => ?_)
            · rw [b2i_0] at hl2
              have hT : tkT (μ.1 9) t a = x := by
                unfold tkT; rw [hf, if_neg hkt, if_neg hL3, if_pos hD2, hJ.2.2.2.2.1]
                first | exact scan_n (by omega) | exact scan_f (fun z => hl2 (by rw [PT_9 hJ.1]; exact inB_def.mp z))
              refine v_aload_n (pc := 235) (i := 0) F dX10_next_235 rfl rfl ?_
              refine v_aload_n (pc := 236) (i := 0) F dX10_next_236 rfl rfl ?_
              refine v_getI (pc := 237) F fX10_134 dX10_next_237 rfl lm0 ?_
              refine v_topE (hJ.2.2.1) ?_
              refine v_aload_n (pc := 240) (i := 0) F dX10_next_240 rfl rfl ?_
              refine v_getI (pc := 241) F fX10_137 dX10_next_241 rfl lm0 ?_
              refine v_topE (hJ.2.1) ?_
              refine v_isub (pc := 244) F dX10_next_244 ?_
              refine v_topE (pk_sub (by omega)) ?_
              refine v_iconst (pc := 245) (v := nI 2) F dX10_next_245 (by decide) ?_
              refine v_icmp_le (pc := 246) (tgt := 254) F dX10_next_246 (by decide) (fun h246_12 => ?_) (fun h246_12 => ?_)
              · rw [nI_leI (by omega) (by omega)] at h246_12
                refine v_bipush (pc := 254) (v := nI 48) F dX10_next_254 (by decide) ?_
                refine v_put (pc := 256) F fX10_140 dX10_next_256 rfl rfl rfl lm0 ?_
                refine v_goto (pc := 259) (tgt := 279) F dX10_next_259 (by decide) ?_
                refine v_return (pc := 279) F dX10_next_279 ?_
                refine ⟨hJ.1.pI ⟨rfl, by omega, by omega⟩, ?_, ?_, ?_, fun z => ?_⟩
                · rw [hf, j_pI_off (by omega)]; exact hJ.2.1
                · rw [hT, j_pI_off (by omega)]; exact hJ.2.2.1
                · unfold tkK; rw [hT, hf, if_neg hkt, if_neg hL3, if_pos hD2, j_pI_at]; first | (rw [if_pos (by omega)]; done) | (rw [if_neg (by omega)]; done) | (exfalso; omega)
                · unfold tkV; rw [hT, hf, j_pI_off (by omega)]; exact hJ.2.2.2.2.2
              · rw [nI_leI (by omega) (by omega)] at h246_12
                refine v_bipush (pc := 249) (v := nI 120) F dX10_next_249 (by decide) ?_
                refine v_goto (pc := 251) (tgt := 256) F dX10_next_251 (by decide) ?_
                refine v_put (pc := 256) F fX10_140 dX10_next_256 rfl rfl rfl lm0 ?_
                refine v_goto (pc := 259) (tgt := 279) F dX10_next_259 (by decide) ?_
                refine v_return (pc := 279) F dX10_next_279 ?_
                refine ⟨hJ.1.pI ⟨rfl, by omega, by omega⟩, ?_, ?_, ?_, fun z => ?_⟩
                · rw [hf, j_pI_off (by omega)]; exact hJ.2.1
                · rw [hT, j_pI_off (by omega)]; exact hJ.2.2.1
                · unfold tkK; rw [hT, hf, if_neg hkt, if_neg hL3, if_pos hD2, j_pI_at]; first | (rw [if_pos (by omega)]; done) | (rw [if_neg (by omega)]; done) | (exfalso; omega)
                · unfold tkV; rw [hT, hf, j_pI_off (by omega)]; exact hJ.2.2.2.2.2
            · rw [b2i_0] at hl2
              rw [Classical.not_not] at hl2
              refine v_aload_n (pc := 185) (i := 0) F dX10_next_185 rfl rfl ?_
              refine v_getI (pc := 186) F fX10_134 dX10_next_186 rfl lm0 ?_
              refine v_topE (hJ.2.2.1) ?_
              refine v_aload_n (pc := 189) (i := 0) F dX10_next_189 rfl rfl ?_
              refine v_getI (pc := 190) F fX10_137 dX10_next_190 rfl lm0 ?_
              refine v_topE (hJ.2.1) ?_
              refine v_isub (pc := 193) F dX10_next_193 ?_
              refine v_topE (pk_sub (by omega)) ?_
              refine v_iconst (pc := 194) (v := nI 2) F dX10_next_194 (by decide) ?_
              refine v_icmp_ge (pc := 195) (tgt := 222) F dX10_next_195 (by decide) (fun h2 => ?_) (fun h2 => ?_)
              · rw [nI_leI (by omega) (by omega)] at h2
                refine v_aload_n (pc := 222) (i := 0) F dX10_next_222 rfl rfl ?_
                refine v_dup (pc := 223) F dX10_next_223 rfl ?_
                refine v_getI (pc := 224) F fX10_134 dX10_next_224 rfl lm0 ?_
                refine v_topE (hJ.2.2.1) ?_
                refine v_iconst (pc := 227) (v := nI 1) F dX10_next_227 (by decide) ?_
                refine v_iadd (pc := 228) F dX10_next_228 ?_
                refine v_topE (nI_add _ _) ?_
                refine v_put (pc := 229) F fX10_134 dX10_next_229 rfl rfl rfl lm0 ?_
                refine v_goto (pc := 232) (tgt := 159) F dX10_next_232 (by decide) ?_
                have hb9 : isD (μ.1 9 x) = true := by rw [← PT_9 hJ.1]; exact inB_def.mpr hl2
                have hsc := hJ.2.2.2.2.1.trans (scan_s (by omega) hb9)
                refine ihx (by omega) _ ⟨hJ.1.pI ⟨rfl, by omega, by omega⟩, (j_pI_off (by omega)).trans hJ.2.1, j_pI_at, by omega, hsc, ?_⟩
                rw [j_pI_off (by omega), hJ.2.2.2.2.2, if_pos (by omega), if_pos (by omega)]
              · rw [nI_leI (by omega) (by omega)] at h2
                refine v_aload_n (pc := 198) (i := 0) F dX10_next_198 rfl rfl ?_
                refine v_bipush (pc := 199) (v := nI 10) F dX10_next_199 (by decide) ?_
                refine v_aload_n (pc := 201) (i := 0) F dX10_next_201 rfl rfl ?_
                refine v_getI (pc := 202) F fX10_149 dX10_next_202 rfl lm0 ?_
                refine v_imul (pc := 205) F dX10_next_205 ?_
                refine v_aload_n (pc := 206) (i := 0) F dX10_next_206 rfl rfl ?_
                refine v_getR (pc := 207) (o := 9) F fX10_34 dX10_next_207 rfl lm0 ?_
                refine v_topR (y := 9) rfl ?_
                refine v_aload_n (pc := 210) (i := 0) F dX10_next_210 rfl rfl ?_
                refine v_getI (pc := 211) F fX10_134 dX10_next_211 rfl lm0 ?_
                refine v_topE (hJ.2.2.1) ?_
                refine v_ialdN (pc := 214) (k0 := x) F dX10_next_214 (lm10_12 lm0) (rfl) (by omega) (by decide) ?_
                refine v_iadd (pc := 215) F dX10_next_215 ?_
                refine v_bipush (pc := 216) (v := nI 48) F dX10_next_216 (by decide) ?_
                refine v_isub (pc := 218) F dX10_next_218 ?_
                refine v_put (pc := 219) F fX10_149 dX10_next_219 rfl rfl rfl lm0 ?_
                refine v_aload_n (pc := 222) (i := 0) F dX10_next_222 rfl rfl ?_
                refine v_dup (pc := 223) F dX10_next_223 rfl ?_
                refine v_getI (pc := 224) F fX10_134 dX10_next_224 rfl lm0 ?_
                refine v_topE (hJ.2.2.1) ?_
                refine v_iconst (pc := 227) (v := nI 1) F dX10_next_227 (by decide) ?_
                refine v_iadd (pc := 228) F dX10_next_228 ?_
                refine v_topE (nI_add _ _) ?_
                refine v_put (pc := 229) F fX10_134 dX10_next_229 rfl rfl rfl lm0 ?_
                refine v_goto (pc := 232) (tgt := 159) F dX10_next_232 (by decide) ?_
                have hb9 : isD (μ.1 9 x) = true := by rw [← PT_9 hJ.1]; exact inB_def.mpr hl2
                have hsc := hJ.2.2.2.2.1.trans (scan_s (by omega) hb9)
                refine ihx (by omega) _ ⟨(hJ.1.pI ⟨rfl, by omega, by omega⟩).pI ⟨rfl, by omega, by omega⟩, (j_pI_off (by omega)).trans ((j_pI_off (by omega)).trans hJ.2.1), j_pI_at, by omega, hsc, ?_⟩
                rw [j_pI_off (by omega), j_pI_at, hJ.2.2.2.2.2, PT_9 hJ.1, if_neg (by omega), if_pos (by omega), show x = k + 1 by omega]
      · rw [b2i_0] at hL
        rw [Classical.not_not] at hL
        have eT := congrFun (PT_9 (hw3.pI (c := 0) (j := 14) (v := nI (k + 1)) ⟨rfl, by omega, by omega⟩)) k
        have hL2 : isL (μ.1 9 k) = true := by rw [← eT]; exact inB_def.mpr hL
        refine j_up t (fun x => ∀ μ2 : j_M, (Fm PT μ μ2 ∧ μ2.1 0 13 = nI k ∧ μ2.1 0 14 = nI x ∧ k + 1 ≤ x ∧ scan isL (μ.1 9) t (k + 1) = scan isL (μ.1 9) t x) → V X _ 96 [some (.ref 0), some (.int (((j_pI (j_pI μ1 0 14 (nI k)) 0 14 (nI (k + 1))).1 9 k)))] [] μ2) (fun x hx ihx μ2 hJ => ?_) ((k + 1)) (by omega) ((j_pI (j_pI μ1 0 14 (nI k)) 0 14 (nI (k + 1)))) (⟨hw3.pI ⟨rfl, by omega, by omega⟩, (j_pI_off (by omega)).trans ((j_pI_off (by omega)).trans hI.2.1), j_pI_at, Nat.le_refl _, rfl⟩)
        refine v_aload_n (pc := 96) (i := 0) F dX10_next_96 rfl rfl ?_
        refine v_getI (pc := 97) F fX10_134 dX10_next_97 rfl lm0 ?_
        refine v_topE (hJ.2.2.1) ?_
        refine v_aload_n (pc := 100) (i := 0) F dX10_next_100 rfl rfl ?_
        refine v_getI (pc := 101) F fX10_131 dX10_next_101 rfl lm0 ?_
        refine v_topE ((hJ.1.1 0 11 (by omega)).trans ht) ?_
        refine v_icmp_ge (pc := 104) (tgt := 135) F dX10_next_104 (by decide) (fun h104_14 => ?_) (fun h104_14 => ?_)
        · rw [nI_leI (by omega) (by omega)] at h104_14
          have hT : tkT (μ.1 9) t a = x := by
            unfold tkT; rw [hf, if_neg hkt, if_pos hL2, hJ.2.2.2.2]
            first | exact scan_n (by omega) | exact scan_f (fun z => hl2 (by rw [PT_9 hJ.1]; exact inB_def.mp z))
          refine v_aload_n (pc := 135) (i := 0) F dX10_next_135 rfl rfl ?_
          refine v_bipush (pc := 136) (v := nI 119) F dX10_next_136 (by decide) ?_
          refine v_put (pc := 138) F fX10_140 dX10_next_138 rfl rfl rfl lm0 ?_
          refine v_goto (pc := 141) (tgt := 279) F dX10_next_141 (by decide) ?_
          refine v_return (pc := 279) F dX10_next_279 ?_
          refine ⟨hJ.1.pI ⟨rfl, by omega, by omega⟩, ?_, ?_, ?_, fun z => ?_⟩
          · rw [hf, j_pI_off (by omega)]; exact hJ.2.1
          · rw [hT, j_pI_off (by omega)]; exact hJ.2.2.1
          · unfold tkK; rw [hf, if_neg hkt, if_pos hL2, j_pI_at]
          · rw [j_pI_at] at z; exact absurd z (by decide)
        · rw [nI_leI (by omega) (by omega)] at h104_14
          refine v_aload_n (pc := 107) (i := 0) F dX10_next_107 rfl rfl ?_
          refine v_getR (pc := 108) (o := 9) F fX10_34 dX10_next_108 rfl lm0 ?_
          refine v_topR (y := 9) rfl ?_
          refine v_aload_n (pc := 111) (i := 0) F dX10_next_111 rfl rfl ?_
          refine v_getI (pc := 112) F fX10_134 dX10_next_112 rfl lm0 ?_
          refine v_topE (hJ.2.2.1) ?_
          refine v_ialdN (pc := 115) (k0 := x) F dX10_next_115 (lm10_12 lm0) (rfl) (by omega) (by decide) ?_
          refine v_callSI (pc := 116) (As := [_]) (rest := []) F mX10_isLetter kX10_143 sm_X10_isLetter dX10_next_116 (c_X10_isLetter _ _) (by decide) rfl rfl (Nat.le_of_ble_eq_true rfl) (fun x15 μ15 hp15 => ?_)
          rw [hp15.1, hp15.2]
          refine v_if_eq (pc := 119) (tgt := 135) F dX10_next_119 (by decide) (fun hl2 => ?_) (fun hl2 => ?_)
          · rw [b2i_0] at hl2
            have hT : tkT (μ.1 9) t a = x := by
              unfold tkT; rw [hf, if_neg hkt, if_pos hL2, hJ.2.2.2.2]
              first | exact scan_n (by omega) | exact scan_f (fun z => hl2 (by rw [PT_9 hJ.1]; exact inB_def.mp z))
            refine v_aload_n (pc := 135) (i := 0) F dX10_next_135 rfl rfl ?_
            refine v_bipush (pc := 136) (v := nI 119) F dX10_next_136 (by decide) ?_
            refine v_put (pc := 138) F fX10_140 dX10_next_138 rfl rfl rfl lm0 ?_
            refine v_goto (pc := 141) (tgt := 279) F dX10_next_141 (by decide) ?_
            refine v_return (pc := 279) F dX10_next_279 ?_
            refine ⟨hJ.1.pI ⟨rfl, by omega, by omega⟩, ?_, ?_, ?_, fun z => ?_⟩
            · rw [hf, j_pI_off (by omega)]; exact hJ.2.1
            · rw [hT, j_pI_off (by omega)]; exact hJ.2.2.1
            · unfold tkK; rw [hf, if_neg hkt, if_pos hL2, j_pI_at]
            · rw [j_pI_at] at z; exact absurd z (by decide)
          · rw [b2i_0] at hl2
            rw [Classical.not_not] at hl2
            refine v_aload_n (pc := 122) (i := 0) F dX10_next_122 rfl rfl ?_
            refine v_dup (pc := 123) F dX10_next_123 rfl ?_
            refine v_getI (pc := 124) F fX10_134 dX10_next_124 rfl lm0 ?_
            refine v_topE (hJ.2.2.1) ?_
            refine v_iconst (pc := 127) (v := nI 1) F dX10_next_127 (by decide) ?_
            refine v_iadd (pc := 128) F dX10_next_128 ?_
            refine v_topE (nI_add _ _) ?_
            refine v_put (pc := 129) F fX10_134 dX10_next_129 rfl rfl rfl lm0 ?_
            refine v_goto (pc := 132) (tgt := 96) F dX10_next_132 (by decide) ?_
            have hb9 : isL (μ.1 9 x) = true := by rw [← PT_9 hJ.1]; exact inB_def.mpr hl2
            exact ihx (by omega) _ ⟨hJ.1.pI ⟨rfl, by omega, by omega⟩, (j_pI_off (by omega)).trans hJ.2.1, j_pI_at, by omega, hJ.2.2.2.2.trans (scan_s (by omega) hb9)⟩
    · rw [nI_eq (by omega) (by omega)] at hkt
      refine v_aload_n (pc := 65) (i := 0) F dX10_next_65 rfl rfl ?_
      refine v_bipush (pc := 66) (v := nI 101) F dX10_next_66 (by decide) ?_
      refine v_put (pc := 68) F fX10_140 dX10_next_68 rfl rfl rfl lm0 ?_
      refine v_return (pc := 71) F dX10_next_71 ?_
      have hkt2 : k = t := by omega
      refine ⟨hw3.pI ⟨rfl, by omega, by omega⟩, ?_, ?_, ?_, fun z => ?_⟩
      · rw [hf, j_pI_off (by omega), j_pI_off (by omega)]; exact hI.2.1
      · unfold tkT; rw [hf, if_pos hkt2, j_pI_off (by omega), j_pI_at, hkt2]
      · unfold tkK; rw [hf, if_pos hkt2, j_pI_at]
      · rw [j_pI_at] at z; exact absurd z (by decide)
  · rw [nI_leI (by omega) (by omega)] at hg
    refine v_aload_n (pc := 19) (i := 0) F dX10_next_19 rfl rfl ?_
    refine v_getR (pc := 20) (o := 9) F fX10_34 dX10_next_20 rfl lm0 ?_
    refine v_topR (y := 9) rfl ?_
    refine v_aload_n (pc := 23) (i := 0) F dX10_next_23 rfl rfl ?_
    refine v_getI (pc := 24) F fX10_137 dX10_next_24 rfl lm0 ?_
    refine v_topE (hI.2.1) ?_
    refine v_ialdN (pc := 27) (k0 := k) F dX10_next_27 (lm10_12 lm0) (rfl) (by omega) (by decide) ?_
    refine v_bipush (pc := 28) (v := nI 32) F dX10_next_28 (by decide) ?_
    refine v_icmp_ne (pc := 30) (tgt := 46) F dX10_next_30 (by decide) (fun hb => ?_) (fun hb => ?_)
    · rw [PT_9 hI.1] at hb
      have hf : tkF (μ.1 9) t a = k := by
        unfold tkF; rw [hI.2.2.2.2]
        first | exact scan_n (by omega) | exact scan_f (by rw [isB_iff]; exact hb)
      have hw3 : Fm PT μ (j_pI μ1 0 14 (nI k)) := hI.1.pI ⟨rfl, by omega, by omega⟩
      refine v_aload_n (pc := 46) (i := 0) F dX10_next_46 rfl rfl ?_
      refine v_aload_n (pc := 47) (i := 0) F dX10_next_47 rfl rfl ?_
      refine v_getI (pc := 48) F fX10_137 dX10_next_48 rfl lm0 ?_
      refine v_topE (hI.2.1) ?_
      refine v_put (pc := 51) F fX10_134 dX10_next_51 rfl rfl rfl lm0 ?_
      refine v_aload_n (pc := 54) (i := 0) F dX10_next_54 rfl rfl ?_
      refine v_getI (pc := 55) F fX10_137 dX10_next_55 rfl lm0 ?_
      refine v_topE (hI.2.1) ?_
      refine v_aload_n (pc := 58) (i := 0) F dX10_next_58 rfl rfl ?_
      refine v_getI (pc := 59) F fX10_131 dX10_next_59 rfl lm0 ?_
      refine v_topE ((hI.1.1 0 11 (by omega)).trans ht) ?_
      refine v_icmp_ne (pc := 62) (tgt := 72) F dX10_next_62 (by decide) (fun hkt => ?_) (fun hkt => ?_)
      · rw [nI_eq (by omega) (by omega)] at hkt
        refine v_aload_n (pc := 72) (i := 0) F dX10_next_72 rfl rfl ?_
        refine v_getR (pc := 73) (o := 9) F fX10_34 dX10_next_73 rfl lm0 ?_
        refine v_topR (y := 9) rfl ?_
        refine v_aload_n (pc := 76) (i := 0) F dX10_next_76 rfl rfl ?_
        refine v_dup (pc := 77) F dX10_next_77 rfl ?_
        refine v_getI (pc := 78) F fX10_134 dX10_next_78 rfl lm0 ?_
        refine v_topE (y := nI k) (j_pI_at) ?_
        refine v_dup_x1 (pc := 81) F dX10_next_81 rfl rfl ?_
        refine v_iconst (pc := 82) (v := nI 1) F dX10_next_82 (by decide) ?_
        refine v_iadd (pc := 83) F dX10_next_83 ?_
        refine v_topE (nI_add _ _) ?_
        refine v_put (pc := 84) F fX10_134 dX10_next_84 rfl rfl rfl lm0 ?_
        refine v_ialdN (pc := 87) (k0 := k) F dX10_next_87 (lm10_12 lm0) (rfl) (by omega) (by decide) ?_
        refine v_istore_n (pc := 88) (lo' := [some (.ref _), some (.int _)]) F dX10_next_88 rfl rfl (Nat.le_of_ble_eq_true rfl) rfl ?_
        refine v_iload_n (pc := 89) (i := 1) F dX10_next_89 rfl rfl ?_
        refine v_callSI (pc := 90) (As := [_]) (rest := []) F mX10_isLetter kX10_143 sm_X10_isLetter dX10_next_90 (c_X10_isLetter _ _) (by decide) rfl rfl (Nat.le_of_ble_eq_true rfl) (fun x19 μ19 hp19 => ?_)
        rw [hp19.1, hp19.2]
        refine v_if_eq (pc := 93) (tgt := 144) F dX10_next_93 (by decide) (fun hL => ?_) (fun hL => ?_)
        · rw [b2i_0] at hL
          have eT := congrFun (PT_9 (hw3.pI (c := 0) (j := 14) (v := nI (k + 1)) ⟨rfl, by omega, by omega⟩)) k
          have hL3 : ¬ isL (μ.1 9 k) = true := by rw [← eT]; exact fun z => hL (inB_def.mp z)
          refine v_iload_n (pc := 144) (i := 1) F dX10_next_144 rfl rfl ?_
          refine v_callSI (pc := 145) (As := [_]) (rest := []) F mX10_isDigit kX10_146 sm_X10_isDigit dX10_next_145 (c_X10_isDigit _ _) (by decide) rfl rfl (Nat.le_of_ble_eq_true rfl) (fun x21 μ21 hp21 => ?_)
          rw [hp21.1, hp21.2]
          refine v_if_eq (pc := 148) (tgt := 262) F dX10_next_148 (by decide) (fun hD => ?_) (fun hD => ?_)
          · rw [b2i_0] at hD
            have hD3 : ¬ isD (μ.1 9 k) = true := by rw [← eT]; exact fun z => hD (inB_def.mp z)
            refine v_aload_n (pc := 262) (i := 0) F dX10_next_262 rfl rfl ?_
            refine v_iload_n (pc := 263) (i := 1) F dX10_next_263 rfl rfl ?_
            refine v_bipush (pc := 264) (v := nI 59) F dX10_next_264 (by decide) ?_
            refine v_icmp_ne (pc := 266) (tgt := 274) F dX10_next_266 (by decide) (fun hsc => ?_) (fun hsc => ?_)
            · skip
              refine v_bipush (pc := 274) (v := nI 120) F dX10_next_274 (by decide) ?_
              refine v_put (pc := 276) F fX10_140 dX10_next_276 rfl rfl rfl lm0 ?_
              refine v_return (pc := 279) F dX10_next_279 ?_
              have hT : tkT (μ.1 9) t a = k + 1 := by
                unfold tkT; rw [hf, if_neg hkt, if_neg hL3, if_neg hD3]
              refine ⟨(hw3.pI ⟨rfl, by omega, by omega⟩).pI ⟨rfl, by omega, by omega⟩, ?_, ?_, ?_, fun z => ?_⟩
              · rw [hf, j_pI_off (by omega), j_pI_off (by omega), j_pI_off (by omega)]; exact hI.2.1
              · rw [hT, j_pI_off (by omega), j_pI_at]
              · unfold tkK; rw [hf, if_neg hkt, if_neg hL3, if_neg hD3, j_pI_at, ← eT]; first | rw [if_pos hsc] | rw [if_neg hsc]
              · rw [j_pI_at] at z; exact absurd z (by decide)
            · skip
              refine v_bipush (pc := 269) (v := nI 59) F dX10_next_269 (by decide) ?_
              refine v_goto (pc := 271) (tgt := 276) F dX10_next_271 (by decide) ?_
              refine v_put (pc := 276) F fX10_140 dX10_next_276 rfl rfl rfl lm0 ?_
              refine v_return (pc := 279) F dX10_next_279 ?_
              have hT : tkT (μ.1 9) t a = k + 1 := by
                unfold tkT; rw [hf, if_neg hkt, if_neg hL3, if_neg hD3]
              refine ⟨(hw3.pI ⟨rfl, by omega, by omega⟩).pI ⟨rfl, by omega, by omega⟩, ?_, ?_, ?_, fun z => ?_⟩
              · rw [hf, j_pI_off (by omega), j_pI_off (by omega), j_pI_off (by omega)]; exact hI.2.1
              · rw [hT, j_pI_off (by omega), j_pI_at]
              · unfold tkK; rw [hf, if_neg hkt, if_neg hL3, if_neg hD3, j_pI_at, ← eT]; first | rw [if_pos hsc] | rw [if_neg hsc]
              · rw [j_pI_at] at z; exact absurd z (by decide)
          · rw [b2i_0] at hD
            rw [Classical.not_not] at hD
            have hD2 : isD (μ.1 9 k) = true := by rw [← eT]; exact inB_def.mpr hD
            refine v_aload_n (pc := 151) (i := 0) F dX10_next_151 rfl rfl ?_
            refine v_iload_n (pc := 152) (i := 1) F dX10_next_152 rfl rfl ?_
            refine v_bipush (pc := 153) (v := nI 48) F dX10_next_153 (by decide) ?_
            refine v_isub (pc := 155) F dX10_next_155 ?_
            refine v_put (pc := 156) F fX10_149 dX10_next_156 rfl rfl rfl lm0 ?_
            refine j_up t (fun x => ∀ μ2 : j_M, (Fm PT μ μ2 ∧ μ2.1 0 13 = nI k ∧ μ2.1 0 14 = nI x ∧ k + 1 ≤ x ∧ scan isD (μ.1 9) t (k + 1) = scan isD (μ.1 9) t x ∧ μ2.1 0 16 = (if 2 ≤ x - k then nI 10 * (μ.1 9 k - nI 48) + μ.1 9 (k + 1) - nI 48 else μ.1 9 k - nI 48)) → V X _ 159 [some (.ref 0), some (.int (((j_pI (j_pI μ1 0 14 (nI k)) 0 14 (nI (k + 1))).1 9 k)))] [] μ2) (fun x hx ihx μ2 hJ => ?_) ((k + 1)) (by omega) ((j_pI (j_pI (j_pI μ1 0 14 (nI k)) 0 14 (nI (k + 1))) 0 16 ((((j_pI (j_pI μ1 0 14 (nI k)) 0 14 (nI (k + 1))).1 9 k) - nI 48)))) (⟨(hw3.pI ⟨rfl, by omega, by omega⟩).pI ⟨rfl, by omega, by omega⟩, (j_pI_off (by omega)).trans ((j_pI_off (by omega)).trans ((j_pI_off (by omega)).trans hI.2.1)), (j_pI_off (by omega)).trans j_pI_at, Nat.le_refl _, rfl, by rw [j_pI_at, if_neg (by omega), eT]⟩)
            refine v_aload_n (pc := 159) (i := 0) F dX10_next_159 rfl rfl ?_
            refine v_getI (pc := 160) F fX10_134 dX10_next_160 rfl lm0 ?_
            refine v_topE (hJ.2.2.1) ?_
            refine v_aload_n (pc := 163) (i := 0) F dX10_next_163 rfl rfl ?_
            refine v_getI (pc := 164) F fX10_131 dX10_next_164 rfl lm0 ?_
            refine v_topE ((hJ.1.1 0 11 (by omega)).trans ht) ?_
            refine v_icmp_ge (pc := 167) (tgt := 235) F dX10_next_167 (by decide) (fun h167_24 => ?_) (fun h167_24 => ?_)
            · rw [nI_leI (by omega) (by omega)] at h167_24
              have hT : tkT (μ.1 9) t a = x := by
                unfold tkT; rw [hf, if_neg hkt, if_neg hL3, if_pos hD2, hJ.2.2.2.2.1]
                first | exact scan_n (by omega) | exact scan_f (fun z => hl2 (by rw [PT_9 hJ.1]; exact inB_def.mp z))
              refine v_aload_n (pc := 235) (i := 0) F dX10_next_235 rfl rfl ?_
              refine v_aload_n (pc := 236) (i := 0) F dX10_next_236 rfl rfl ?_
              refine v_getI (pc := 237) F fX10_134 dX10_next_237 rfl lm0 ?_
              refine v_topE (hJ.2.2.1) ?_
              refine v_aload_n (pc := 240) (i := 0) F dX10_next_240 rfl rfl ?_
              refine v_getI (pc := 241) F fX10_137 dX10_next_241 rfl lm0 ?_
              refine v_topE (hJ.2.1) ?_
              refine v_isub (pc := 244) F dX10_next_244 ?_
              refine v_topE (pk_sub (by omega)) ?_
              refine v_iconst (pc := 245) (v := nI 2) F dX10_next_245 (by decide) ?_
              refine v_icmp_le (pc := 246) (tgt := 254) F dX10_next_246 (by decide) (fun h246_25 => ?_) (fun h246_25 => ?_)
              · rw [nI_leI (by omega) (by omega)] at h246_25
                refine v_bipush (pc := 254) (v := nI 48) F dX10_next_254 (by decide) ?_
                refine v_put (pc := 256) F fX10_140 dX10_next_256 rfl rfl rfl lm0 ?_
                refine v_goto (pc := 259) (tgt := 279) F dX10_next_259 (by decide) ?_
                refine v_return (pc := 279) F dX10_next_279 ?_
                refine ⟨hJ.1.pI ⟨rfl, by omega, by omega⟩, ?_, ?_, ?_, fun z => ?_⟩
                · rw [hf, j_pI_off (by omega)]; exact hJ.2.1
                · rw [hT, j_pI_off (by omega)]; exact hJ.2.2.1
                · unfold tkK; rw [hT, hf, if_neg hkt, if_neg hL3, if_pos hD2, j_pI_at]; first | (rw [if_pos (by omega)]; done) | (rw [if_neg (by omega)]; done) | (exfalso; omega)
                · unfold tkV; rw [hT, hf, j_pI_off (by omega)]; exact hJ.2.2.2.2.2
              · rw [nI_leI (by omega) (by omega)] at h246_25
                refine v_bipush (pc := 249) (v := nI 120) F dX10_next_249 (by decide) ?_
                refine v_goto (pc := 251) (tgt := 256) F dX10_next_251 (by decide) ?_
                refine v_put (pc := 256) F fX10_140 dX10_next_256 rfl rfl rfl lm0 ?_
                refine v_goto (pc := 259) (tgt := 279) F dX10_next_259 (by decide) ?_
                refine v_return (pc := 279) F dX10_next_279 ?_
                refine ⟨hJ.1.pI ⟨rfl, by omega, by omega⟩, ?_, ?_, ?_, fun z => ?_⟩
                · rw [hf, j_pI_off (by omega)]; exact hJ.2.1
                · rw [hT, j_pI_off (by omega)]; exact hJ.2.2.1
                · unfold tkK; rw [hT, hf, if_neg hkt, if_neg hL3, if_pos hD2, j_pI_at]; first | (rw [if_pos (by omega)]; done) | (rw [if_neg (by omega)]; done) | (exfalso; omega)
                · unfold tkV; rw [hT, hf, j_pI_off (by omega)]; exact hJ.2.2.2.2.2
            · rw [nI_leI (by omega) (by omega)] at h167_24
              refine v_aload_n (pc := 170) (i := 0) F dX10_next_170 rfl rfl ?_
              refine v_getR (pc := 171) (o := 9) F fX10_34 dX10_next_171 rfl lm0 ?_
              refine v_topR (y := 9) rfl ?_
              refine v_aload_n (pc := 174) (i := 0) F dX10_next_174 rfl rfl ?_
              refine v_getI (pc := 175) F fX10_134 dX10_next_175 rfl lm0 ?_
              refine v_topE (hJ.2.2.1) ?_
              refine v_ialdN (pc := 178) (k0 := x) F dX10_next_178 (lm10_12 lm0) (rfl) (by omega) (by decide) ?_
              refine v_callSI (pc := 179) (As := [_]) (rest := []) F mX10_isDigit kX10_146 sm_X10_isDigit dX10_next_179 (c_X10_isDigit _ _) (by decide) rfl rfl (Nat.le_of_ble_eq_true rfl) (fun x26 μ26 hp26 => ?_)
              rw [hp26.1, hp26.2]
              refine v_if_eq (pc := 182) (tgt := 235) F dX10_next_182 (by decide) (fun hl2 => ?_) (fun hl2 => ?_)
              · rw [b2i_0] at hl2
                have hT : tkT (μ.1 9) t a = x := by
                  unfold tkT; rw [hf, if_neg hkt, if_neg hL3, if_pos hD2, hJ.2.2.2.2.1]
                  first | exact scan_n (by omega) | exact scan_f (fun z => hl2 (by rw [PT_9 hJ.1]; exact inB_def.mp z))
                refine v_aload_n (pc := 235) (i := 0) F dX10_next_235 rfl rfl ?_
                refine v_aload_n (pc := 236) (i := 0) F dX10_next_236 rfl rfl ?_
                refine v_getI (pc := 237) F fX10_134 dX10_next_237 rfl lm0 ?_
                refine v_topE (hJ.2.2.1) ?_
                refine v_aload_n (pc := 240) (i := 0) F dX10_next_240 rfl rfl ?_
                refine v_getI (pc := 241) F fX10_137 dX10_next_241 rfl lm0 ?_
                refine v_topE (hJ.2.1) ?_
                refine v_isub (pc := 244) F dX10_next_244 ?_
                refine v_topE (pk_sub (by omega)) ?_
                refine v_iconst (pc := 245) (v := nI 2) F dX10_next_245 (by decide) ?_
                refine v_icmp_le (pc := 246) (tgt := 254) F dX10_next_246 (by decide) (fun h246_28 => ?_) (fun h246_28 => ?_)
                · rw [nI_leI (by omega) (by omega)] at h246_28
                  refine v_bipush (pc := 254) (v := nI 48) F dX10_next_254 (by decide) ?_
                  refine v_put (pc := 256) F fX10_140 dX10_next_256 rfl rfl rfl lm0 ?_
                  refine v_goto (pc := 259) (tgt := 279) F dX10_next_259 (by decide) ?_
                  refine v_return (pc := 279) F dX10_next_279 ?_
                  refine ⟨hJ.1.pI ⟨rfl, by omega, by omega⟩, ?_, ?_, ?_, fun z => ?_⟩
                  · rw [hf, j_pI_off (by omega)]; exact hJ.2.1
                  · rw [hT, j_pI_off (by omega)]; exact hJ.2.2.1
                  · unfold tkK; rw [hT, hf, if_neg hkt, if_neg hL3, if_pos hD2, j_pI_at]; first | (rw [if_pos (by omega)]; done) | (rw [if_neg (by omega)]; done) | (exfalso; omega)
                  · unfold tkV; rw [hT, hf, j_pI_off (by omega)]; exact hJ.2.2.2.2.2
                · rw [nI_leI (by omega) (by omega)] at h246_28
                  refine v_bipush (pc := 249) (v := nI 120) F dX10_next_249 (by decide) ?_
                  refine v_goto (pc := 251) (tgt := 256) F dX10_next_251 (by decide) ?_
                  refine v_put (pc := 256) F fX10_140 dX10_next_256 rfl rfl rfl lm0 ?_
                  refine v_goto (pc := 259) (tgt := 279) F dX10_next_259 (by decide) ?_
                  refine v_return (pc := 279) F dX10_next_279 ?_
                  refine ⟨hJ.1.pI ⟨rfl, by omega, by omega⟩, ?_, ?_, ?_, fun z => ?_⟩
                  · rw [hf, j_pI_off (by omega)]; exact hJ.2.1
                  · rw [hT, j_pI_off (by omega)]; exact hJ.2.2.1
                  · unfold tkK; rw [hT, hf, if_neg hkt, if_neg hL3, if_pos hD2, j_pI_at]; first | (rw [if_pos (by omega)]; done) | (rw [if_neg (by omega)]; done) | (exfalso; omega)
                  · unfold tkV; rw [hT, hf, j_pI_off (by omega)]; exact hJ.2.2.2.2.2
              · rw [b2i_0] at hl2
                rw [Classical.not_not] at hl2
                refine v_aload_n (pc := 185) (i := 0) F dX10_next_185 rfl rfl ?_
                refine v_getI (pc := 186) F fX10_134 dX10_next_186 rfl lm0 ?_
                refine v_topE (hJ.2.2.1) ?_
                refine v_aload_n (pc := 189) (i := 0) F dX10_next_189 rfl rfl ?_
                refine v_getI (pc := 190) F fX10_137 dX10_next_190 rfl lm0 ?_
                refine v_topE (hJ.2.1) ?_
                refine v_isub (pc := 193) F dX10_next_193 ?_
                refine v_topE (pk_sub (by omega)) ?_
                refine v_iconst (pc := 194) (v := nI 2) F dX10_next_194 (by decide) ?_
                refine v_icmp_ge (pc := 195) (tgt := 222) F dX10_next_195 (by decide) (fun h2 => ?_) (fun h2 => ?_)
                · rw [nI_leI (by omega) (by omega)] at h2
                  refine v_aload_n (pc := 222) (i := 0) F dX10_next_222 rfl rfl ?_
                  refine v_dup (pc := 223) F dX10_next_223 rfl ?_
                  refine v_getI (pc := 224) F fX10_134 dX10_next_224 rfl lm0 ?_
                  refine v_topE (hJ.2.2.1) ?_
                  refine v_iconst (pc := 227) (v := nI 1) F dX10_next_227 (by decide) ?_
                  refine v_iadd (pc := 228) F dX10_next_228 ?_
                  refine v_topE (nI_add _ _) ?_
                  refine v_put (pc := 229) F fX10_134 dX10_next_229 rfl rfl rfl lm0 ?_
                  refine v_goto (pc := 232) (tgt := 159) F dX10_next_232 (by decide) ?_
                  have hb9 : isD (μ.1 9 x) = true := by rw [← PT_9 hJ.1]; exact inB_def.mpr hl2
                  have hsc := hJ.2.2.2.2.1.trans (scan_s (by omega) hb9)
                  refine ihx (by omega) _ ⟨hJ.1.pI ⟨rfl, by omega, by omega⟩, (j_pI_off (by omega)).trans hJ.2.1, j_pI_at, by omega, hsc, ?_⟩
                  rw [j_pI_off (by omega), hJ.2.2.2.2.2, if_pos (by omega), if_pos (by omega)]
                · rw [nI_leI (by omega) (by omega)] at h2
                  refine v_aload_n (pc := 198) (i := 0) F dX10_next_198 rfl rfl ?_
                  refine v_bipush (pc := 199) (v := nI 10) F dX10_next_199 (by decide) ?_
                  refine v_aload_n (pc := 201) (i := 0) F dX10_next_201 rfl rfl ?_
                  refine v_getI (pc := 202) F fX10_149 dX10_next_202 rfl lm0 ?_
                  refine v_imul (pc := 205) F dX10_next_205 ?_
                  refine v_aload_n (pc := 206) (i := 0) F dX10_next_206 rfl rfl ?_
                  refine v_getR (pc := 207) (o := 9) F fX10_34 dX10_next_207 rfl lm0 ?_
                  refine v_topR (y := 9) rfl ?_
                  refine v_aload_n (pc := 210) (i := 0) F dX10_next_210 rfl rfl ?_
                  refine v_getI (pc := 211) F fX10_134 dX10_next_211 rfl lm0 ?_
                  refine v_topE (hJ.2.2.1) ?_
                  refine v_ialdN (pc := 214) (k0 := x) F dX10_next_214 (lm10_12 lm0) (rfl) (by omega) (by decide) ?_
                  refine v_iadd (pc := 215) F dX10_next_215 ?_
                  refine v_bipush (pc := 216) (v := nI 48) F dX10_next_216 (by decide) ?_
                  refine v_isub (pc := 218) F dX10_next_218 ?_
                  refine v_put (pc := 219) F fX10_149 dX10_next_219 rfl rfl rfl lm0 ?_
                  refine v_aload_n (pc := 222) (i := 0) F dX10_next_222 rfl rfl ?_
                  refine v_dup (pc := 223) F dX10_next_223 rfl ?_
                  refine v_getI (pc := 224) F fX10_134 dX10_next_224 rfl lm0 ?_
                  refine v_topE (hJ.2.2.1) ?_
                  refine v_iconst (pc := 227) (v := nI 1) F dX10_next_227 (by decide) ?_
                  refine v_iadd (pc := 228) F dX10_next_228 ?_
                  refine v_topE (nI_add _ _) ?_
                  refine v_put (pc := 229) F fX10_134 dX10_next_229 rfl rfl rfl lm0 ?_
                  refine v_goto (pc := 232) (tgt := 159) F dX10_next_232 (by decide) ?_
                  have hb9 : isD (μ.1 9 x) = true := by rw [← PT_9 hJ.1]; exact inB_def.mpr hl2
                  have hsc := hJ.2.2.2.2.1.trans (scan_s (by omega) hb9)
                  refine ihx (by omega) _ ⟨(hJ.1.pI ⟨rfl, by omega, by omega⟩).pI ⟨rfl, by omega, by omega⟩, (j_pI_off (by omega)).trans ((j_pI_off (by omega)).trans hJ.2.1), j_pI_at, by omega, hsc, ?_⟩
                  rw [j_pI_off (by omega), j_pI_at, hJ.2.2.2.2.2, PT_9 hJ.1, if_neg (by omega), if_pos (by omega), show x = k + 1 by omega]
        · rw [b2i_0] at hL
          rw [Classical.not_not] at hL
          have eT := congrFun (PT_9 (hw3.pI (c := 0) (j := 14) (v := nI (k + 1)) ⟨rfl, by omega, by omega⟩)) k
          have hL2 : isL (μ.1 9 k) = true := by rw [← eT]; exact inB_def.mpr hL
          refine j_up t (fun x => ∀ μ2 : j_M, (Fm PT μ μ2 ∧ μ2.1 0 13 = nI k ∧ μ2.1 0 14 = nI x ∧ k + 1 ≤ x ∧ scan isL (μ.1 9) t (k + 1) = scan isL (μ.1 9) t x) → V X _ 96 [some (.ref 0), some (.int (((j_pI (j_pI μ1 0 14 (nI k)) 0 14 (nI (k + 1))).1 9 k)))] [] μ2) (fun x hx ihx μ2 hJ => ?_) ((k + 1)) (by omega) ((j_pI (j_pI μ1 0 14 (nI k)) 0 14 (nI (k + 1)))) (⟨hw3.pI ⟨rfl, by omega, by omega⟩, (j_pI_off (by omega)).trans ((j_pI_off (by omega)).trans hI.2.1), j_pI_at, Nat.le_refl _, rfl⟩)
          refine v_aload_n (pc := 96) (i := 0) F dX10_next_96 rfl rfl ?_
          refine v_getI (pc := 97) F fX10_134 dX10_next_97 rfl lm0 ?_
          refine v_topE (hJ.2.2.1) ?_
          refine v_aload_n (pc := 100) (i := 0) F dX10_next_100 rfl rfl ?_
          refine v_getI (pc := 101) F fX10_131 dX10_next_101 rfl lm0 ?_
          refine v_topE ((hJ.1.1 0 11 (by omega)).trans ht) ?_
          refine v_icmp_ge (pc := 104) (tgt := 135) F dX10_next_104 (by decide) (fun h104_30 => ?_) (fun h104_30 => ?_)
          · rw [nI_leI (by omega) (by omega)] at h104_30
            have hT : tkT (μ.1 9) t a = x := by
              unfold tkT; rw [hf, if_neg hkt, if_pos hL2, hJ.2.2.2.2]
              first | exact scan_n (by omega) | exact scan_f (fun z => hl2 (by rw [PT_9 hJ.1]; exact inB_def.mp z))
            refine v_aload_n (pc := 135) (i := 0) F dX10_next_135 rfl rfl ?_
            refine v_bipush (pc := 136) (v := nI 119) F dX10_next_136 (by decide) ?_
            refine v_put (pc := 138) F fX10_140 dX10_next_138 rfl rfl rfl lm0 ?_
            refine v_goto (pc := 141) (tgt := 279) F dX10_next_141 (by decide) ?_
            refine v_return (pc := 279) F dX10_next_279 ?_
            refine ⟨hJ.1.pI ⟨rfl, by omega, by omega⟩, ?_, ?_, ?_, fun z => ?_⟩
            · rw [hf, j_pI_off (by omega)]; exact hJ.2.1
            · rw [hT, j_pI_off (by omega)]; exact hJ.2.2.1
            · unfold tkK; rw [hf, if_neg hkt, if_pos hL2, j_pI_at]
            · rw [j_pI_at] at z; exact absurd z (by decide)
          · rw [nI_leI (by omega) (by omega)] at h104_30
            refine v_aload_n (pc := 107) (i := 0) F dX10_next_107 rfl rfl ?_
            refine v_getR (pc := 108) (o := 9) F fX10_34 dX10_next_108 rfl lm0 ?_
            refine v_topR (y := 9) rfl ?_
            refine v_aload_n (pc := 111) (i := 0) F dX10_next_111 rfl rfl ?_
            refine v_getI (pc := 112) F fX10_134 dX10_next_112 rfl lm0 ?_
            refine v_topE (hJ.2.2.1) ?_
            refine v_ialdN (pc := 115) (k0 := x) F dX10_next_115 (lm10_12 lm0) (rfl) (by omega) (by decide) ?_
            refine v_callSI (pc := 116) (As := [_]) (rest := []) F mX10_isLetter kX10_143 sm_X10_isLetter dX10_next_116 (c_X10_isLetter _ _) (by decide) rfl rfl (Nat.le_of_ble_eq_true rfl) (fun x31 μ31 hp31 => ?_)
            rw [hp31.1, hp31.2]
            refine v_if_eq (pc := 119) (tgt := 135) F dX10_next_119 (by decide) (fun hl2 => ?_) (fun hl2 => ?_)
            · rw [b2i_0] at hl2
              have hT : tkT (μ.1 9) t a = x := by
                unfold tkT; rw [hf, if_neg hkt, if_pos hL2, hJ.2.2.2.2]
                first | exact scan_n (by omega) | exact scan_f (fun z => hl2 (by rw [PT_9 hJ.1]; exact inB_def.mp z))
              refine v_aload_n (pc := 135) (i := 0) F dX10_next_135 rfl rfl ?_
              refine v_bipush (pc := 136) (v := nI 119) F dX10_next_136 (by decide) ?_
              refine v_put (pc := 138) F fX10_140 dX10_next_138 rfl rfl rfl lm0 ?_
              refine v_goto (pc := 141) (tgt := 279) F dX10_next_141 (by decide) ?_
              refine v_return (pc := 279) F dX10_next_279 ?_
              refine ⟨hJ.1.pI ⟨rfl, by omega, by omega⟩, ?_, ?_, ?_, fun z => ?_⟩
              · rw [hf, j_pI_off (by omega)]; exact hJ.2.1
              · rw [hT, j_pI_off (by omega)]; exact hJ.2.2.1
              · unfold tkK; rw [hf, if_neg hkt, if_pos hL2, j_pI_at]
              · rw [j_pI_at] at z; exact absurd z (by decide)
            · rw [b2i_0] at hl2
              rw [Classical.not_not] at hl2
              refine v_aload_n (pc := 122) (i := 0) F dX10_next_122 rfl rfl ?_
              refine v_dup (pc := 123) F dX10_next_123 rfl ?_
              refine v_getI (pc := 124) F fX10_134 dX10_next_124 rfl lm0 ?_
              refine v_topE (hJ.2.2.1) ?_
              refine v_iconst (pc := 127) (v := nI 1) F dX10_next_127 (by decide) ?_
              refine v_iadd (pc := 128) F dX10_next_128 ?_
              refine v_topE (nI_add _ _) ?_
              refine v_put (pc := 129) F fX10_134 dX10_next_129 rfl rfl rfl lm0 ?_
              refine v_goto (pc := 132) (tgt := 96) F dX10_next_132 (by decide) ?_
              have hb9 : isL (μ.1 9 x) = true := by rw [← PT_9 hJ.1]; exact inB_def.mpr hl2
              exact ihx (by omega) _ ⟨hJ.1.pI ⟨rfl, by omega, by omega⟩, (j_pI_off (by omega)).trans hJ.2.1, j_pI_at, by omega, hJ.2.2.2.2.trans (scan_s (by omega) hb9)⟩
      · rw [nI_eq (by omega) (by omega)] at hkt
        refine v_aload_n (pc := 65) (i := 0) F dX10_next_65 rfl rfl ?_
        refine v_bipush (pc := 66) (v := nI 101) F dX10_next_66 (by decide) ?_
        refine v_put (pc := 68) F fX10_140 dX10_next_68 rfl rfl rfl lm0 ?_
        refine v_return (pc := 71) F dX10_next_71 ?_
        have hkt2 : k = t := by omega
        refine ⟨hw3.pI ⟨rfl, by omega, by omega⟩, ?_, ?_, ?_, fun z => ?_⟩
        · rw [hf, j_pI_off (by omega), j_pI_off (by omega)]; exact hI.2.1
        · unfold tkT; rw [hf, if_pos hkt2, j_pI_off (by omega), j_pI_at, hkt2]
        · unfold tkK; rw [hf, if_pos hkt2, j_pI_at]
        · rw [j_pI_at] at z; exact absurd z (by decide)
    · rw [PT_9 hI.1] at hb
      refine v_aload_n (pc := 33) (i := 0) F dX10_next_33 rfl rfl ?_
      refine v_dup (pc := 34) F dX10_next_34 rfl ?_
      refine v_getI (pc := 35) F fX10_137 dX10_next_35 rfl lm0 ?_
      refine v_topE (hI.2.1) ?_
      refine v_iconst (pc := 38) (v := nI 1) F dX10_next_38 (by decide) ?_
      refine v_iadd (pc := 39) F dX10_next_39 ?_
      refine v_topE (nI_add _ _) ?_
      refine v_put (pc := 40) F fX10_137 dX10_next_40 rfl rfl rfl lm0 ?_
      refine v_goto (pc := 43) (tgt := 8) F dX10_next_43 (by decide) ?_
      have hb2 : isB (μ.1 9 k) = true := by rw [isB_iff]; exact hb
      exact ih (by omega) _ ⟨hI.1.pI ⟨rfl, by omega, by omega⟩, j_pI_at, (j_pI_off (by omega)).trans hI.2.2.1, by omega, hI.2.2.2.2.trans (scan_s (by omega) hb2)⟩
