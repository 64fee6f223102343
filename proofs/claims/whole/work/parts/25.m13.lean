/-! the reference's swaps -/
theorem SW_w {μ μ' : j_M} (h : Fm PW μ μ') (c : Nat) (hc : c < 20) : μ'.1 c = μ.1 c := funext fun j => h.1 c j (by unfold PW; omega)
theorem rn_t {w : Nat → Nat → Int32} {I : Nat → Bool} {n l : Nat} (h : I l = true) (h2 : rgA (wsN w I n) l n = l) : rnR w I n l = true := by unfold rnR; rw [h, h2]; simp
theorem rn_f {w : Nat → Nat → Int32} {I : Nat → Bool} {n l : Nat} (h2 : ¬ rgA (wsN w I n) l n = l) : ¬ rnR w I n l = true := by unfold rnR; simp [h2]
theorem tbK {P : Nat → Bool} {n k : Nat} (hn : n ≤ 32) (hk : k < n) : (tb (bK P n) k = true) = (P k = true) := by rw [tb_bK hn, decide_eq_true hk, Bool.true_and]
def SD (μ : j_M) (n r k : Nat) (μ3 : j_M) : Prop := Fm PW μ μ3 ∧ (∀ l, l < n → (μ3.1 21 l = 0) = ((if l < k then (swK μ.1 n (r + 1)).1 l else (swK μ.1 n r).1 l) = true)) ∧ (∀ l, l < n → μ3.1 22 l = (if l < k then (swK μ.1 n (r + 1)).2 l else (swK μ.1 n r).2 l)) ∧ ∀ l, l < n → (swK μ.1 n r).1 l = true → μ3.1 20 l = nI (wsN μ.1 (swK μ.1 n r).1 n l)
theorem SD_t {μ μ3 : j_M} {n r k : Nat} {v o : Int32} (h : SD μ n r k μ3) (hr : rnR μ.1 (swK μ.1 n r).1 n k = true) (hv : v = μ.1 7 (wsN μ.1 (swK μ.1 n r).1 n k)) (ho : ¬ o = 0) : SD μ n r (k + 1) (j_pI (j_pI μ3 22 k v) 21 k o) := by
  refine ⟨(h.1.pI (Or.inr (Or.inr rfl))).pI (Or.inr (Or.inl rfl)), fun l hl => ?_, fun l hl => ?_, fun l hl hi => ?_⟩
  · by_cases e : l = k
    · subst e
      rw [j_pI_at, if_pos (by omega)]
      show _ = (((swK μ.1 n r).1 l && !(rnR μ.1 (swK μ.1 n r).1 n l)) = true)
      rw [hr]
      simp [ho]
    · rw [j_pI_off (by omega), j_pI_ne (by decide), h.2.1 l hl]
      by_cases q : l < k
      · rw [if_pos q, if_pos (by omega)]
      · rw [if_neg q, if_neg (by omega)]
  · by_cases e : l = k
    · subst e
      rw [j_pI_ne (by decide), j_pI_at, if_pos (by omega), hv]
      exact (if_pos hr).symm
    · rw [j_pI_ne (by decide), j_pI_off (by omega), h.2.2.1 l hl]
      by_cases q : l < k
      · rw [if_pos q, if_pos (by omega)]
      · rw [if_neg q, if_neg (by omega)]
  · rw [j_pI_ne (by decide), j_pI_ne (by decide)]; exact h.2.2.2 l hl hi
theorem SD_f {μ μ3 : j_M} {n r k : Nat} (h : SD μ n r k μ3) (hr : ¬ rnR μ.1 (swK μ.1 n r).1 n k = true) : SD μ n r (k + 1) μ3 := by
  refine ⟨h.1, fun l hl => ?_, fun l hl => ?_, h.2.2.2⟩
  · rw [h.2.1 l hl]
    by_cases q : l < k
    · rw [if_pos q, if_pos (by omega)]
    · rw [if_neg q]
      by_cases e : l = k
      · subst e
        rw [if_pos (by omega)]
        show _ = (((swK μ.1 n r).1 l && !(rnR μ.1 (swK μ.1 n r).1 n l)) = true)
        rw [show rnR μ.1 (swK μ.1 n r).1 n l = false by simpa using hr]
        simp
      · rw [if_neg (by omega)]
  · rw [h.2.2.1 l hl]
    by_cases q : l < k
    · rw [if_pos q, if_pos (by omega)]
    · rw [if_neg q]
      by_cases e : l = k
      · subst e
        rw [if_pos (by omega)]
        exact (if_neg hr).symm
      · rw [if_neg (by omega)]

set_option maxRecDepth 100000 in
theorem c_X10_swaps (n : Nat) (μ : j_M) (hn : μ.1 0 1 = nI n) (hn8 : n ≤ 8) : Ct yX10_swaps cX10_swaps 4 none 2 ΛM [.ref 0] μ (pV fun μ2 => Fm PW μ μ2 ∧ ∀ l, l < n → μ2.1 22 l = (swK μ.1 n 8).2 l) := by
  refine Ct.go (lo := [some (.ref 0), none, none, none]) (by decide) (Nat.le_of_ble_eq_true rfl) rfl rfl (fun X F => ?_)
  have F : Fx X cX10_swaps RX10 2 none ΛM := F
  refine v_iconst (pc := 0) (v := nI 0) F dX10_swaps_0 (by decide) ?_
  refine v_istore_n (pc := 1) (lo' := [some (.ref _), some (.int _), _, _]) F dX10_swaps_1 rfl rfl (Nat.le_of_ble_eq_true rfl) rfl ?_
  refine v_iconst (pc := 2) (v := nI 0) F dX10_swaps_2 (by decide) ?_
  refine v_istore_n (pc := 3) (lo' := [some (.ref _), some (.int _), some (.int _), _]) F dX10_swaps_3 rfl rfl (Nat.le_of_ble_eq_true rfl) rfl ?_
  refine j_up n (fun k => ∀ μ' : j_M, (Fm PW μ μ' ∧ ∀ l, l < k → (μ'.1 21 l = 0) = ((fun l => !(μ.1 7 l == -1)) l = true) ∧ μ'.1 22 l = -1) → V X _ 4 [some (.ref 0), some (.int (nI (cK (fun l => !(μ.1 7 l == -1)) k))), some (.int (nI k)), none] [] μ') (fun k hk ih μ' hI => ?_) 0 (Nat.zero_le _) μ (⟨Fm.rf, fun l hl => absurd hl (Nat.not_lt_zero _)⟩)
  refine v_iload_n (pc := 4) (i := 2) F dX10_swaps_4 rfl rfl ?_
  refine v_aload_n (pc := 5) (i := 0) F dX10_swaps_5 rfl rfl ?_
  refine v_getI (pc := 6) F fX10_89 dX10_swaps_6 rfl lm0 ?_
  refine v_topE ((hI.1.1 0 1 (by omega)).trans hn) ?_
  refine v_icmp_ge (pc := 9) (tgt := 58) F dX10_swaps_9 (by decide) (fun h9_1 => ?_) (fun h9_1 => ?_)
  · rw [nI_leI (by omega) (by omega)] at h9_1
    have e9 : n = k := by omega
    subst e9
    refine v_drop (i := 2) (lo' := [some (.ref _), some (.int _), _, _]) rfl ?_
    refine j_up 8 (fun r => ∀ μ1 : j_M, (SW μ n r μ1) → V X _ 58 [some (.ref 0), some (.int (nI (cK (swK μ.1 n r).1 n))), none, none] [] μ1) (fun r hr ihr μ1 hS => ?_) 0 (Nat.zero_le _) μ' (⟨hI.1, fun l hl => (hI.2 l (by omega)).1, fun l hl => (hI.2 l (by omega)).2⟩)
    refine v_iload_n (pc := 58) (i := 1) F dX10_swaps_58 rfl rfl ?_
    have hc8 := cK_le ((swK μ.1 n r).1) n
    refine v_if_le (pc := 59) (tgt := 196) F dX10_swaps_59 (by decide) (fun hz => ?_) (fun hz => ?_)
    · rw [j_le0 (by omega)] at hz
      refine v_return (pc := 196) F dX10_swaps_196 ?_
      have hz0 : cK (swK μ.1 n r).1 n = 0 := by omega
      exact ⟨hS.1, fun l hl => (hS.2.2 l hl).trans (sw_stop hz0 8 hr l hl).2.symm⟩
    · rw [j_le0 (by omega)] at hz
      refine v_iconst (pc := 62) (v := nI 0) F dX10_swaps_62 (by decide) ?_
      refine v_istore_n (pc := 63) (lo' := [some (.ref _), some (.int _), some (.int _), _]) F dX10_swaps_63 rfl rfl (Nat.le_of_ble_eq_true rfl) rfl ?_
      refine j_up n (fun k => ∀ μ2 : j_M, (SW μ n r μ2 ∧ ∀ l, l < k → (swK μ.1 n r).1 l = true → μ2.1 20 l = nI ((wsN μ.1 (swK μ.1 n r).1 n) l)) → V X _ 64 [some (.ref 0), some (.int (nI (cK (swK μ.1 n r).1 n))), some (.int (nI k)), none] [] μ2) (fun k hk ih μ2 hA => ?_) 0 (Nat.zero_le _) μ1 (⟨hS, fun l hl => absurd hl (Nat.not_lt_zero _)⟩)
      refine v_iload_n (pc := 64) (i := 2) F dX10_swaps_64 rfl rfl ?_
      refine v_aload_n (pc := 65) (i := 0) F dX10_swaps_65 rfl rfl ?_
      refine v_getI (pc := 66) F fX10_89 dX10_swaps_66 rfl lm0 ?_
      refine v_topE ((hA.1.1.1 0 1 (by omega)).trans hn) ?_
      refine v_icmp_ge (pc := 69) (tgt := 98) F dX10_swaps_69 (by decide) (fun h69_3 => ?_) (fun h69_3 => ?_)
      · rw [nI_leI (by omega) (by omega)] at h69_3
        refine v_iconst (pc := 98) (v := nI 0) F dX10_swaps_98 (by decide) ?_
        refine v_istore_n (pc := 99) (lo' := [some (.ref _), some (.int _), some (.int _), _]) F dX10_swaps_99 rfl rfl (Nat.le_of_ble_eq_true rfl) rfl ?_
        refine v_iconst (pc := 100) (v := nI 0) F dX10_swaps_100 (by decide) ?_
        refine v_istore_n (pc := 101) (lo' := [some (.ref _), some (.int _), some (.int _), some (.int _)]) F dX10_swaps_101 rfl rfl (Nat.le_of_ble_eq_true rfl) rfl ?_
        refine j_up n (fun k => V X _ 102 [some (.ref 0), some (.int (nI (cK (swK μ.1 n r).1 n))), some (.int ((bK (rnR μ.1 (swK μ.1 n r).1 n) k))), some (.int (nI k))] [] μ2) (fun k hk ih => ?_) 0 (Nat.zero_le _)
        refine v_iload_n (pc := 102) (i := 3) F dX10_swaps_102 rfl rfl ?_
        refine v_aload_n (pc := 103) (i := 0) F dX10_swaps_103 rfl rfl ?_
        refine v_getI (pc := 104) F fX10_89 dX10_swaps_104 rfl lm0 ?_
        refine v_topE ((hA.1.1.1 0 1 (by omega)).trans hn) ?_
        refine v_icmp_ge (pc := 107) (tgt := 139) F dX10_swaps_107 (by decide) (fun h107_4 => ?_) (fun h107_4 => ?_)
        · rw [nI_leI (by omega) (by omega)] at h107_4
          refine v_iconst (pc := 139) (v := nI 0) F dX10_swaps_139 (by decide) ?_
          refine v_istore_n (pc := 140) (lo' := [some (.ref _), some (.int _), some (.int _), some (.int _)]) F dX10_swaps_140 rfl rfl (Nat.le_of_ble_eq_true rfl) rfl ?_
          have e9 : n = k := by omega
          subst e9
          refine j_up n (fun k => ∀ μ3 : j_M, (SD μ n r k μ3) → V X _ 141 [some (.ref 0), some (.int (nI (cK (swK μ.1 n r).1 n - cK (rnR μ.1 (swK μ.1 n r).1 n) k))), some (.int ((bK (rnR μ.1 (swK μ.1 n r).1 n) n))), some (.int (nI k))] [] μ3) (fun k hk ih μ3 hD => ?_) 0 (Nat.zero_le _) μ2 (⟨hA.1.1, fun l hl => by rw [if_neg (by omega)]; exact hA.1.2.1 l hl, fun l hl => by rw [if_neg (by omega)]; exact hA.1.2.2 l hl, fun l hl hi => hA.2 l (by omega) hi⟩)
          refine v_iload_n (pc := 141) (i := 3) F dX10_swaps_141 rfl rfl ?_
          refine v_aload_n (pc := 142) (i := 0) F dX10_swaps_142 rfl rfl ?_
          refine v_getI (pc := 143) F fX10_89 dX10_swaps_143 rfl lm0 ?_
          refine v_topE ((hD.1.1 0 1 (by omega)).trans hn) ?_
          refine v_icmp_ge (pc := 146) (tgt := 193) F dX10_swaps_146 (by decide) (fun h146_5 => ?_) (fun h146_5 => ?_)
          · rw [nI_leI (by omega) (by omega)] at h146_5
            refine v_goto (pc := 193) (tgt := 58) F dX10_swaps_193 (by decide) ?_
            refine v_drop (i := 2) (lo' := [some (.ref _), some (.int _), _, some (.int _)]) rfl ?_
            refine v_drop (i := 3) (lo' := [some (.ref _), some (.int _), _, _]) rfl ?_
            have e9 : n = k := by omega
            subst e9
            have hc := sw_cnt (w := μ.1) (n := n) (r := r)
            rw [show cK (swK μ.1 n r).1 n - cK (rnR μ.1 (swK μ.1 n r).1 n) n = cK (swK μ.1 n (r + 1)).1 n by omega]
            have hsl := sw_left (w := μ.1) (n := n) r
            exact ihr (by omega) _ ⟨hD.1, fun l hl => by rw [hD.2.1 l hl, if_pos (by omega)], fun l hl => by rw [hD.2.2.1 l hl, if_pos (by omega)]⟩
          · rw [nI_leI (by omega) (by omega)] at h146_5
            refine v_iload_n (pc := 149) (i := 2) F dX10_swaps_149 rfl rfl ?_
            refine v_iload_n (pc := 150) (i := 3) F dX10_swaps_150 rfl rfl ?_
            refine v_callSI (pc := 151) (As := [_, _]) (rest := []) F mX10_in kX10_194 sm_X10_in dX10_swaps_151 (c_X10_inN _ k (by omega) _) (by decide) rfl rfl (Nat.le_of_ble_eq_true rfl) (fun x6 μ6 hp6 => ?_)
            rw [hp6.1, hp6.2]
            refine v_if_ne (pc := 154) (tgt := 160) F dX10_swaps_154 (by decide) (fun hb5 => ?_) (fun hb5 => ?_)
            · rw [b2i_0, tbK (by omega) (by omega)] at hb5
              rw [Classical.not_not] at hb5
              have hwn := (wsN_lt (w := μ.1) (n := n) (by omega : k < n) (rnR_in hb5)).1
              refine v_aload_n (pc := 160) (i := 0) F dX10_swaps_160 rfl rfl ?_
              refine v_getR (pc := 161) (o := 22) F fX10_75 dX10_swaps_161 rfl lm0 ?_
              refine v_topR (y := 22) rfl ?_
              refine v_iload_n (pc := 164) (i := 3) F dX10_swaps_164 rfl rfl ?_
              refine v_aload_n (pc := 165) (i := 0) F dX10_swaps_165 rfl rfl ?_
              refine v_getR (pc := 166) (o := 7) F fX10_28 dX10_swaps_166 rfl lm0 ?_
              refine v_topR (y := 7) rfl ?_
              refine v_aload_n (pc := 169) (i := 0) F dX10_swaps_169 rfl rfl ?_
              refine v_getR (pc := 170) (o := 20) F fX10_68 dX10_swaps_170 rfl lm0 ?_
              refine v_topR (y := 20) rfl ?_
              refine v_iload_n (pc := 173) (i := 3) F dX10_swaps_173 rfl rfl ?_
              refine v_ialdN (pc := 174) (k0 := k) F dX10_swaps_174 (lm10_29 lm0) (rfl) (by omega) (by decide) ?_
              refine v_topE (y := nI ((wsN μ.1 (swK μ.1 n r).1 n) k)) (hD.2.2.2 k (by omega) (rnR_in hb5)) ?_
              refine v_ialdN (pc := 175) (k0 := (wsN μ.1 (swK μ.1 n r).1 n) k) F dX10_swaps_175 (lm10_7 lm0) (rfl) (by omega) (by decide) ?_
              refine v_iastN (pc := 176) (k0 := k) F dX10_swaps_176 (lm10_31 lm0) (rfl) (by omega) (by decide) ?_
              refine v_aload_n (pc := 177) (i := 0) F dX10_swaps_177 rfl rfl ?_
              refine v_getR (pc := 178) (o := 21) F fX10_71 dX10_swaps_178 rfl lm0 ?_
              refine v_topR (y := 21) rfl ?_
              refine v_iload_n (pc := 181) (i := 3) F dX10_swaps_181 rfl rfl ?_
              refine v_iconst (pc := 182) (v := nI 1) F dX10_swaps_182 (by decide) ?_
              refine v_zastN (pc := 183) (k0 := k) F dX10_swaps_183 (lm10_30 lm0) (rfl) (by omega) (by decide) ?_
              refine v_iinc (pc := 184) (i := 1) (v := nI (cK (swK μ.1 n r).1 n - cK (rnR μ.1 (swK μ.1 n r).1 n) (k + 1))) (lo' := [some (.ref _), some (.int _), some (.int _), some (.int _)]) F dX10_swaps_184 rfl ((by have z1 := cK_up (P := (rnR μ.1 (swK μ.1 n r).1 n)) (show k + 1 ≤ n by omega); have z2 := cK_mono (P := (rnR μ.1 (swK μ.1 n r).1 n)) (Q := (swK μ.1 n r).1) (n := n) (fun l _ q => rnR_in q); rw [cK_t hb5] at z1 ⊢; rw [show cK (swK μ.1 n r).1 n - (cK (rnR μ.1 (swK μ.1 n r).1 n) k + 1) = cK (swK μ.1 n r).1 n - cK (rnR μ.1 (swK μ.1 n r).1 n) k - 1 by omega]; exact nI_dec (by omega))) rfl rfl ?_
              refine v_iinc (pc := 187) (i := 3) (v := nI (k + 1)) (lo' := [some (.ref _), some (.int _), some (.int _), some (.int _)]) F dX10_swaps_187 rfl (j_inc _) rfl rfl ?_
              refine v_goto (pc := 190) (tgt := 141) F dX10_swaps_190 (by decide) ?_
              exact ih (by omega) _ (SD_t hD hb5 (hD.1.1 7 _ (by unfold PW; omega)) (by rw [nar1]; decide))
            · rw [b2i_0, tbK (by omega) (by omega)] at hb5
              refine v_goto (pc := 157) (tgt := 187) F dX10_swaps_157 (by decide) ?_
              refine v_iinc (pc := 187) (i := 3) (v := nI (k + 1)) (lo' := [some (.ref _), some (.int _), some (.int _), some (.int _)]) F dX10_swaps_187 rfl (j_inc _) rfl rfl ?_
              refine v_goto (pc := 190) (tgt := 141) F dX10_swaps_190 (by decide) ?_
              have q := ih (by omega) _ (SD_f hD hb5)
              rw [show cK (rnR μ.1 (swK μ.1 n r).1 n) (k + 1) = cK (rnR μ.1 (swK μ.1 n r).1 n) k from cK_f hb5] at q
              exact q
        · rw [nI_leI (by omega) (by omega)] at h107_4
          refine v_aload_n (pc := 110) (i := 0) F dX10_swaps_110 rfl rfl ?_
          refine v_getR (pc := 111) (o := 21) F fX10_71 dX10_swaps_111 rfl lm0 ?_
          refine v_topR (y := 21) rfl ?_
          refine v_iload_n (pc := 114) (i := 3) F dX10_swaps_114 rfl rfl ?_
          refine v_zaldN (pc := 115) (k0 := k) F dX10_swaps_115 (lm10_30 lm0) (rfl) (by omega) (by decide) ?_
          refine v_if_ne (pc := 116) (tgt := 133) F dX10_swaps_116 (by decide) (fun hb3 => ?_) (fun hb3 => ?_)
          · rw [hA.1.2.1 k (by omega)] at hb3
            refine v_iinc (pc := 133) (i := 3) (v := nI (k + 1)) (lo' := [some (.ref _), some (.int _), some (.int _), some (.int _)]) F dX10_swaps_133 rfl (j_inc _) rfl rfl ?_
            refine v_goto (pc := 136) (tgt := 102) F dX10_swaps_136 (by decide) ?_
            have q := ih (by omega)
            rw [bK_f (k := k) (fun z => hb3 (rnR_in z))] at q
            exact q
          · rw [hA.1.2.1 k (by omega)] at hb3
            refine v_aload_n (pc := 119) (i := 0) F dX10_swaps_119 rfl rfl ?_
            refine v_iload_n (pc := 120) (i := 3) F dX10_swaps_120 rfl rfl ?_
            refine v_callVI (pc := 121) (As := [_]) (rest := []) (c := 10) F mX10_isRing kX10_284 im_X10_isRing se_X10_isRing dX10_swaps_121 rfl rfl (by decide) (c_X10_isRing k n (wsN μ.1 (swK μ.1 n r).1 n) (fun z => z < n ∧ (swK μ.1 n r).1 z = true) _ ((hA.1.1.1 0 1 (by omega)).trans hn) hn8 (fun z hz => ⟨hz.1, hA.2 z (by omega) hz.2, wsN_lt hz.1 hz.2⟩) ⟨by omega, hb3⟩) (by decide) rfl rfl (Nat.le_of_ble_eq_true rfl) lm0 (fun x9 μ9 hp9 => ?_)
            rw [hp9.1, hp9.2]
            refine v_if_eq (pc := 124) (tgt := 133) F dX10_swaps_124 (by decide) (fun hb4 => ?_) (fun hb4 => ?_)
            · rw [b2i_0] at hb4
              refine v_iinc (pc := 133) (i := 3) (v := nI (k + 1)) (lo' := [some (.ref _), some (.int _), some (.int _), some (.int _)]) F dX10_swaps_133 rfl (j_inc _) rfl rfl ?_
              refine v_goto (pc := 136) (tgt := 102) F dX10_swaps_136 (by decide) ?_
              have q := ih (by omega)
              first | (rw [bK_t (k := k) (rn_t hb3 hb4)] at q; exact q) | (rw [bK_f (k := k) (rn_f hb4)] at q; exact q)
            · rw [b2i_0] at hb4
              rw [Classical.not_not] at hb4
              refine v_iload_n (pc := 127) (i := 2) F dX10_swaps_127 rfl rfl ?_
              refine v_iconst (pc := 128) (v := nI 1) F dX10_swaps_128 (by decide) ?_
              refine v_iload_n (pc := 129) (i := 3) F dX10_swaps_129 rfl rfl ?_
              refine v_ishl (pc := 130) F dX10_swaps_130 ?_
              refine v_ior (pc := 131) F dX10_swaps_131 ?_
              refine v_istore_n (pc := 132) (lo' := [some (.ref _), some (.int _), some (.int _), some (.int _)]) F dX10_swaps_132 rfl rfl (Nat.le_of_ble_eq_true rfl) rfl ?_
              refine v_iinc (pc := 133) (i := 3) (v := nI (k + 1)) (lo' := [some (.ref _), some (.int _), some (.int _), some (.int _)]) F dX10_swaps_133 rfl (j_inc _) rfl rfl ?_
              refine v_goto (pc := 136) (tgt := 102) F dX10_swaps_136 (by decide) ?_
              have q := ih (by omega)
              first | (rw [bK_t (k := k) (rn_t hb3 hb4)] at q; exact q) | (rw [bK_f (k := k) (rn_f hb4)] at q; exact q)
      · rw [nI_leI (by omega) (by omega)] at h69_3
        refine v_aload_n (pc := 72) (i := 0) F dX10_swaps_72 rfl rfl ?_
        refine v_getR (pc := 73) (o := 21) F fX10_71 dX10_swaps_73 rfl lm0 ?_
        refine v_topR (y := 21) rfl ?_
        refine v_iload_n (pc := 76) (i := 2) F dX10_swaps_76 rfl rfl ?_
        refine v_zaldN (pc := 77) (k0 := k) F dX10_swaps_77 (lm10_30 lm0) (rfl) (by omega) (by decide) ?_
        refine v_if_ne (pc := 78) (tgt := 92) F dX10_swaps_78 (by decide) (fun hb2 => ?_) (fun hb2 => ?_)
        · rw [hA.1.2.1 k (by omega)] at hb2
          refine v_iinc (pc := 92) (i := 2) (v := nI (k + 1)) (lo' := [some (.ref _), some (.int _), some (.int _), _]) F dX10_swaps_92 rfl (j_inc _) rfl rfl ?_
          refine v_goto (pc := 95) (tgt := 64) F dX10_swaps_95 (by decide) ?_
          refine ih (by omega) _ ⟨hA.1, fun l hl hi => ?_⟩
          rcases Nat.lt_succ_iff_lt_or_eq.mp hl with q | q
          · exact hA.2 l q hi
          · subst q; exact absurd hi hb2
        · rw [hA.1.2.1 k (by omega)] at hb2
          refine v_aload_n (pc := 81) (i := 0) F dX10_swaps_81 rfl rfl ?_
          refine v_getR (pc := 82) (o := 20) F fX10_68 dX10_swaps_82 rfl lm0 ?_
          refine v_topR (y := 20) rfl ?_
          refine v_iload_n (pc := 85) (i := 2) F dX10_swaps_85 rfl rfl ?_
          refine v_aload_n (pc := 86) (i := 0) F dX10_swaps_86 rfl rfl ?_
          refine v_iload_n (pc := 87) (i := 2) F dX10_swaps_87 rfl rfl ?_
          refine v_callVI (pc := 88) (As := [_]) (rest := [_, _]) (c := 10) F mX10_wishOf kX10_281 im_X10_wishOf se_X10_wishOf dX10_swaps_88 rfl rfl (by decide) (c_X10_wishOf k (by omega) n μ.1 (swK μ.1 n r).1 _ ((hA.1.1.1 0 1 (by omega)).trans hn) hn8 (SW_w hA.1.1 3 (by omega)) (SW_w hA.1.1 5 (by omega)) (SW_w hA.1.1 7 (by omega)) (hA.1.2.1)) (by decide) rfl rfl (Nat.le_of_ble_eq_true rfl) lm0 (fun x12 μ12 hp12 => ?_)
          rw [hp12.1, hp12.2]
          refine v_iastN (pc := 91) (k0 := k) F dX10_swaps_91 (lm10_29 lm0) (rfl) (by omega) (by decide) ?_
          refine v_iinc (pc := 92) (i := 2) (v := nI (k + 1)) (lo' := [some (.ref _), some (.int _), some (.int _), _]) F dX10_swaps_92 rfl (j_inc _) rfl rfl ?_
          refine v_goto (pc := 95) (tgt := 64) F dX10_swaps_95 (by decide) ?_
          refine ih (by omega) _ ⟨⟨hA.1.1.pI (Or.inl rfl), fun l hl => by rw [j_pI_ne (by decide)]; exact hA.1.2.1 l hl, fun l hl => by rw [j_pI_ne (by decide)]; exact hA.1.2.2 l hl⟩, fun l hl hi => ?_⟩
          rcases Nat.lt_succ_iff_lt_or_eq.mp hl with q | q
          · rw [j_pI_off (by omega)]; exact hA.2 l q hi
          · subst q; rw [j_pI_at]
  · rw [nI_leI (by omega) (by omega)] at h9_1
    refine v_aload_n (pc := 12) (i := 0) F dX10_swaps_12 rfl rfl ?_
    refine v_getR (pc := 13) (o := 21) F fX10_71 dX10_swaps_13 rfl lm0 ?_
    refine v_topR (y := 21) rfl ?_
    refine v_iload_n (pc := 16) (i := 2) F dX10_swaps_16 rfl rfl ?_
    refine v_aload_n (pc := 17) (i := 0) F dX10_swaps_17 rfl rfl ?_
    refine v_getR (pc := 18) (o := 7) F fX10_28 dX10_swaps_18 rfl lm0 ?_
    refine v_topR (y := 7) rfl ?_
    refine v_iload_n (pc := 21) (i := 2) F dX10_swaps_21 rfl rfl ?_
    refine v_ialdN (pc := 22) (k0 := k) F dX10_swaps_22 (lm10_7 lm0) (rfl) (by omega) (by decide) ?_
    refine v_iconst (pc := 23) (v := (-1)) F dX10_swaps_23 (by decide) ?_
    refine v_icmp_ne (pc := 24) (tgt := 31) F dX10_swaps_24 (by decide) (fun hs => ?_) (fun hs => ?_)
    · skip
      refine v_iconst (pc := 31) (v := nI 0) F dX10_swaps_31 (by decide) ?_
      refine v_zastN (pc := 32) (k0 := k) F dX10_swaps_32 (lm10_30 lm0) (rfl) (by omega) (by decide) ?_
      refine v_aload_n (pc := 33) (i := 0) F dX10_swaps_33 rfl rfl ?_
      refine v_getR (pc := 34) (o := 22) F fX10_75 dX10_swaps_34 rfl lm0 ?_
      refine v_topR (y := 22) rfl ?_
      refine v_iload_n (pc := 37) (i := 2) F dX10_swaps_37 rfl rfl ?_
      refine v_iconst (pc := 38) (v := (-1)) F dX10_swaps_38 (by decide) ?_
      refine v_iastN (pc := 39) (k0 := k) F dX10_swaps_39 (lm10_31 lm0) (rfl) (by omega) (by decide) ?_
      refine v_aload_n (pc := 40) (i := 0) F dX10_swaps_40 rfl rfl ?_
      refine v_getR (pc := 41) (o := 21) F fX10_71 dX10_swaps_41 rfl lm0 ?_
      refine v_topR (y := 21) rfl ?_
      refine v_iload_n (pc := 44) (i := 2) F dX10_swaps_44 rfl rfl ?_
      refine v_zaldN (pc := 45) (k0 := k) F dX10_swaps_45 (lm10_30 lm0) (rfl) (by omega) (by decide) ?_
      refine v_if_ne (pc := 46) (tgt := 52) F dX10_swaps_46 (by decide) (fun hb => ?_) (fun hb => ?_)
      · skip
        refine v_iinc (pc := 52) (i := 2) (v := nI (k + 1)) (lo' := [some (.ref _), some (.int _), some (.int _), _]) F dX10_swaps_52 rfl (j_inc _) rfl rfl ?_
        refine v_goto (pc := 55) (tgt := 4) F dX10_swaps_55 (by decide) ?_
        rw [j_pI_ne (by decide), j_pI_at] at hb
        first | exact absurd hb (by decide) | exact (hb (by decide)).elim
      · skip
        refine v_iinc (pc := 49) (i := 1) (v := nI (cK (fun l => !(μ.1 7 l == -1)) k + 1)) (lo' := [some (.ref _), some (.int _), some (.int _), _]) F dX10_swaps_49 rfl (j_inc _) rfl rfl ?_
        refine v_iinc (pc := 52) (i := 2) (v := nI (k + 1)) (lo' := [some (.ref _), some (.int _), some (.int _), _]) F dX10_swaps_52 rfl (j_inc _) rfl rfl ?_
        refine v_goto (pc := 55) (tgt := 4) F dX10_swaps_55 (by decide) ?_
        have e7 : μ'.1 7 k = μ.1 7 k := hI.1.1 7 k (by unfold PW; omega)
        rw [e7] at hs
        rw [j_pI_ne (by decide), j_pI_at] at hb
        have hst : ∀ v : Int32, (v = 0) = ((fun l => !(μ.1 7 l == -1)) k = true) → ∀ l, l < k + 1 → ((j_pI (j_pI μ' 21 k v) 22 k (-1)).1 21 l = 0) = ((fun l => !(μ.1 7 l == -1)) l = true) ∧ (j_pI (j_pI μ' 21 k v) 22 k (-1)).1 22 l = -1 := fun v hv l hl => by
          rcases Nat.lt_succ_iff_lt_or_eq.mp hl with q | q
          · rw [j_pI_ne (by decide), j_pI_off (by omega), j_pI_off (by omega), j_pI_ne (by decide)]; exact hI.2 l q
          · subst q; rw [j_pI_ne (by decide), j_pI_at, j_pI_at]; exact ⟨hv, rfl⟩
        have hv : (vp_nar .boolean (nI 0) = 0) = ((fun l => !(μ.1 7 l == -1)) k = true) := by first | (rw [nar0]; simp [hs, j_n0]; done) | (rw [nar1]; simp [hs, j_n1]; done)
        have q := ih (by omega) _ ⟨(hI.1.pI (Or.inr (Or.inl rfl))).pI (Or.inr (Or.inr rfl)), hst (vp_nar .boolean (nI 0)) hv⟩
        first | (rw [cK_t (k := k) (by simp [hs])] at q; exact q) | (rw [cK_f (k := k) (by simp [hs])] at q; exact q)
    · skip
      refine v_iconst (pc := 27) (v := nI 1) F dX10_swaps_27 (by decide) ?_
      refine v_goto (pc := 28) (tgt := 32) F dX10_swaps_28 (by decide) ?_
      refine v_zastN (pc := 32) (k0 := k) F dX10_swaps_32 (lm10_30 lm0) (rfl) (by omega) (by decide) ?_
      refine v_aload_n (pc := 33) (i := 0) F dX10_swaps_33 rfl rfl ?_
      refine v_getR (pc := 34) (o := 22) F fX10_75 dX10_swaps_34 rfl lm0 ?_
      refine v_topR (y := 22) rfl ?_
      refine v_iload_n (pc := 37) (i := 2) F dX10_swaps_37 rfl rfl ?_
      refine v_iconst (pc := 38) (v := (-1)) F dX10_swaps_38 (by decide) ?_
      refine v_iastN (pc := 39) (k0 := k) F dX10_swaps_39 (lm10_31 lm0) (rfl) (by omega) (by decide) ?_
      refine v_aload_n (pc := 40) (i := 0) F dX10_swaps_40 rfl rfl ?_
      refine v_getR (pc := 41) (o := 21) F fX10_71 dX10_swaps_41 rfl lm0 ?_
      refine v_topR (y := 21) rfl ?_
      refine v_iload_n (pc := 44) (i := 2) F dX10_swaps_44 rfl rfl ?_
      refine v_zaldN (pc := 45) (k0 := k) F dX10_swaps_45 (lm10_30 lm0) (rfl) (by omega) (by decide) ?_
      refine v_if_ne (pc := 46) (tgt := 52) F dX10_swaps_46 (by decide) (fun hb => ?_) (fun hb => ?_)
      · skip
        refine v_iinc (pc := 52) (i := 2) (v := nI (k + 1)) (lo' := [some (.ref _), some (.int _), some (.int _), _]) F dX10_swaps_52 rfl (j_inc _) rfl rfl ?_
        refine v_goto (pc := 55) (tgt := 4) F dX10_swaps_55 (by decide) ?_
        have e7 : μ'.1 7 k = μ.1 7 k := hI.1.1 7 k (by unfold PW; omega)
        rw [e7] at hs
        rw [j_pI_ne (by decide), j_pI_at] at hb
        have hst : ∀ v : Int32, (v = 0) = ((fun l => !(μ.1 7 l == -1)) k = true) → ∀ l, l < k + 1 → ((j_pI (j_pI μ' 21 k v) 22 k (-1)).1 21 l = 0) = ((fun l => !(μ.1 7 l == -1)) l = true) ∧ (j_pI (j_pI μ' 21 k v) 22 k (-1)).1 22 l = -1 := fun v hv l hl => by
          rcases Nat.lt_succ_iff_lt_or_eq.mp hl with q | q
          · rw [j_pI_ne (by decide), j_pI_off (by omega), j_pI_off (by omega), j_pI_ne (by decide)]; exact hI.2 l q
          · subst q; rw [j_pI_ne (by decide), j_pI_at, j_pI_at]; exact ⟨hv, rfl⟩
        have hv : (vp_nar .boolean (nI 1) = 0) = ((fun l => !(μ.1 7 l == -1)) k = true) := by first | (rw [nar0]; simp [hs, j_n0]; done) | (rw [nar1]; simp [hs, j_n1]; done)
        have q := ih (by omega) _ ⟨(hI.1.pI (Or.inr (Or.inl rfl))).pI (Or.inr (Or.inr rfl)), hst (vp_nar .boolean (nI 1)) hv⟩
        first | (rw [cK_t (k := k) (by simp [hs])] at q; exact q) | (rw [cK_f (k := k) (by simp [hs])] at q; exact q)
      · skip
        refine v_iinc (pc := 49) (i := 1) (v := nI (cK (fun l => !(μ.1 7 l == -1)) k + 1)) (lo' := [some (.ref _), some (.int _), some (.int _), _]) F dX10_swaps_49 rfl (j_inc _) rfl rfl ?_
        refine v_iinc (pc := 52) (i := 2) (v := nI (k + 1)) (lo' := [some (.ref _), some (.int _), some (.int _), _]) F dX10_swaps_52 rfl (j_inc _) rfl rfl ?_
        refine v_goto (pc := 55) (tgt := 4) F dX10_swaps_55 (by decide) ?_
        rw [j_pI_ne (by decide), j_pI_at] at hb
        first | exact absurd hb (by decide) | exact (hb (by decide)).elim
