/-! the reference: a statement, a window -/
def nb1 (t : Nat → Int32) (n e M : Nat) (F : Nat → j_M) : Sum Nat (Nat × j_M) := match nbr t n e M with
  | none => .inl (tkF t n e)
  | some x => .inr (tkT t n e, F x)
def nb2 (t : Nat → Int32) (n e M N : Nat) (F : Nat → Nat → j_M) : Sum Nat (Nat × j_M) := match nbr t n e M with
  | none => .inl (tkF t n e)
  | some x => nb1 t n (tkT t n e) N (F x)
def nb3 (t : Nat → Int32) (n e M N K : Nat) (F : Nat → Nat → Nat → j_M) : Sum Nat (Nat × j_M) := match nbr t n e M with
  | none => .inl (tkF t n e)
  | some x => nb2 t n (tkT t n e) N K (F x)
/-- a statement: where it fails, or where it ends and what comes of it -/
def stS (t : Nat → Int32) (n : Nat) (kd : Int32) (f e : Nat) (μ : j_M) : Sum Nat (Nat × j_M) :=
  if isW t f e kd 0 = true then nb2 t n e 12 8 (fun x v => j_pI μ 1 x (nI v))
  else if isW t f e kd 1 = true then nb1 t n e 12 (fun x => j_pI μ 1 x (-1))
  else if isW t f e kd 2 = true then (if nn μ = 8 then .inl f else nb3 t n e 6 8 100 (fun x v g => m_nl μ (nn μ) (nI x) (nI v) (nI g)))
  else if isW t f e kd 3 = true then nb2 t n e (nn μ) 8 (fun x v => j_pI μ 5 x (μ.1 5 x ||| ((1 : Int32) <<< (nI v &&& 31))))
  else if isW t f e kd 4 = true then nb2 t n e (nn μ) 13 (fun x v => j_pI μ 6 x (nI v))
  else if isW t f e kd 5 = true then nb2 t n e (nn μ) 8 (fun x v => j_pI μ 7 x (nI v))
  else .inl f
def ST (o : Sum Nat (Nat × j_M)) (r : Int32) (μ μ2 : j_M) : Prop := match o with
  | .inl g => r = 0 ∧ μ2.1 0 13 = nI g ∧ Fm PT μ μ2
  | .inr q => r = 1 ∧ μ2.1 0 14 = nI q.1 ∧ Fm PT q.2 μ2
theorem zh_F {P : Nat → Nat → Prop} {a b : j_M} {n i : Nat} (h : Fm P a b) : Fm P (zh a n i) (zh b n i) := ⟨fun c j q => by
  show (if c = 8 ∧ 8 * n ≤ j ∧ j < 8 * n + i then (0 : Int32) else b.1 c j) = if c = 8 ∧ 8 * n ≤ j ∧ j < 8 * n + i then 0 else a.1 c j
  split
  · rfl
  · exact h.1 c j q, h.2⟩
theorem nl_F {P : Nat → Nat → Prop} {a b : j_M} {n : Nat} {k o g : Int32} (h : Fm P a b) : Fm P (m_nl a n k o g) (m_nl b n k o g) := by
  unfold m_nl
  exact (zh_F h.both.both.both.both.both.both).both

theorem nl_0 {μ : j_M} {n j : Nat} {k a g : Int32} (h : j ≠ 1) : (m_nl μ n k a g).1 0 j = μ.1 0 j := by
  unfold m_nl
  rw [j_pI_off (by omega), zh_o (by omega), j_pI_off (by omega), j_pI_off (by omega), j_pI_off (by omega), j_pI_off (by omega), j_pI_off (by omega), j_pI_off (by omega)]
theorem nl_1 {μ : j_M} {n : Nat} {k a g : Int32} : (m_nl μ n k a g).1 0 1 = nI (n + 1) := j_pI_at

set_option maxRecDepth 100000 in
theorem c_X10_statement (tp : Nat → Int32) (t f e n : Nat) (μ : j_M) (h9 : μ.1 9 = tp) (ht : μ.1 0 11 = nI t) (ht2 : t ≤ 250) (hf : μ.1 0 13 = nI f) (he : μ.1 0 14 = nI e) (hfe : f ≤ e) (het : e ≤ t) (hn : μ.1 0 1 = nI n) (hn8 : n ≤ 8) : Ct yX10_statement cX10_statement 4 (some .boolean) 5 ΛM [.ref 0] μ (pI fun r μ2 => ST (stS tp t (μ.1 0 15) f e μ) r μ μ2) := by
  refine Ct.go (lo := [some (.ref 0), none, none, none]) (by decide) (Nat.le_of_ble_eq_true rfl) rfl rfl (fun X F => ?_)
  have F : Fx X cX10_statement RX10 5 (some .boolean) ΛM := F
  have hnn := nn_eq hn hn8
  refine v_aload_n (pc := 0) (i := 0) F dX10_statement_0 rfl rfl ?_
  refine v_ldcS (pc := 1) (j := 0) F dX10_statement_1 (List.mem_of_getElem? (i := 6) rfl) ?_
  refine v_callVI (pc := 3) (As := [_]) (rest := []) (c := 10) F mX10_isWord kX10_167 im_X10_isWord se_X10_isWord dX10_statement_3 rfl rfl (by decide) (c_X10_isWord 0 ((by decide)) f e _ hf he hfe (by omega)) (by decide) rfl rfl (Nat.le_of_ble_eq_true rfl) lm0 (fun x1 μ1 hp1 => ?_)
  have hq := hp1.1
  rw [h9] at hq
  rw [hq, hp1.2]
  refine v_if_eq (pc := 6) (tgt := 50) F dX10_statement_6 (by decide) (fun h6_2 => ?_) (fun h6_2 => ?_)
  · rw [b2i_0] at h6_2
    refine v_aload_n (pc := 50) (i := 0) F dX10_statement_50 rfl rfl ?_
    refine v_ldcS (pc := 51) (j := 1) F dX10_statement_51 (List.mem_of_getElem? (i := 7) rfl) ?_
    refine v_callVI (pc := 53) (As := [_]) (rest := []) (c := 10) F mX10_isWord kX10_167 im_X10_isWord se_X10_isWord dX10_statement_53 rfl rfl (by decide) (c_X10_isWord 1 ((by decide)) f e _ hf he hfe (by omega)) (by decide) rfl rfl (Nat.le_of_ble_eq_true rfl) lm0 (fun x3 μ3 hp3 => ?_)
    have hq := hp3.1
    rw [h9] at hq
    rw [hq, hp3.2]
    refine v_if_eq (pc := 56) (tgt := 83) F dX10_statement_56 (by decide) (fun h56_4 => ?_) (fun h56_4 => ?_)
    · rw [b2i_0] at h56_4
      refine v_aload_n (pc := 83) (i := 0) F dX10_statement_83 rfl rfl ?_
      refine v_ldcS (pc := 84) (j := 2) F dX10_statement_84 (List.mem_of_getElem? (i := 8) rfl) ?_
      refine v_callVI (pc := 86) (As := [_]) (rest := []) (c := 10) F mX10_isWord kX10_167 im_X10_isWord se_X10_isWord dX10_statement_86 rfl rfl (by decide) (c_X10_isWord 2 ((by decide)) f e _ hf he hfe (by omega)) (by decide) rfl rfl (Nat.le_of_ble_eq_true rfl) lm0 (fun x5 μ5 hp5 => ?_)
      have hq := hp5.1
      rw [h9] at hq
      rw [hq, hp5.2]
      refine v_if_eq (pc := 89) (tgt := 161) F dX10_statement_89 (by decide) (fun h89_6 => ?_) (fun h89_6 => ?_)
      · rw [b2i_0] at h89_6
        refine v_aload_n (pc := 161) (i := 0) F dX10_statement_161 rfl rfl ?_
        refine v_ldcS (pc := 162) (j := 3) F dX10_statement_162 (List.mem_of_getElem? (i := 9) rfl) ?_
        refine v_callVI (pc := 164) (As := [_]) (rest := []) (c := 10) F mX10_isWord kX10_167 im_X10_isWord se_X10_isWord dX10_statement_164 rfl rfl (by decide) (c_X10_isWord 3 ((by decide)) f e _ hf he hfe (by omega)) (by decide) rfl rfl (Nat.le_of_ble_eq_true rfl) lm0 (fun x7 μ7 hp7 => ?_)
        have hq := hp7.1
        rw [h9] at hq
        rw [hq, hp7.2]
        refine v_if_eq (pc := 167) (tgt := 174) F dX10_statement_167 (by decide) (fun h167_8 => ?_) (fun h167_8 => ?_)
        · rw [b2i_0] at h167_8
          refine v_aload_n (pc := 174) (i := 0) F dX10_statement_174 rfl rfl ?_
          refine v_ldcS (pc := 175) (j := 4) F dX10_statement_175 (List.mem_of_getElem? (i := 10) rfl) ?_
          refine v_callVI (pc := 177) (As := [_]) (rest := []) (c := 10) F mX10_isWord kX10_167 im_X10_isWord se_X10_isWord dX10_statement_177 rfl rfl (by decide) (c_X10_isWord 4 ((by decide)) f e _ hf he hfe (by omega)) (by decide) rfl rfl (Nat.le_of_ble_eq_true rfl) lm0 (fun x9 μ9 hp9 => ?_)
          have hq := hp9.1
          rw [h9] at hq
          rw [hq, hp9.2]
          refine v_if_eq (pc := 180) (tgt := 187) F dX10_statement_180 (by decide) (fun h180_10 => ?_) (fun h180_10 => ?_)
          · rw [b2i_0] at h180_10
            refine v_aload_n (pc := 187) (i := 0) F dX10_statement_187 rfl rfl ?_
            refine v_ldcS (pc := 188) (j := 5) F dX10_statement_188 (List.mem_of_getElem? (i := 11) rfl) ?_
            refine v_callVI (pc := 190) (As := [_]) (rest := []) (c := 10) F mX10_isWord kX10_167 im_X10_isWord se_X10_isWord dX10_statement_190 rfl rfl (by decide) (c_X10_isWord 5 ((by decide)) f e _ hf he hfe (by omega)) (by decide) rfl rfl (Nat.le_of_ble_eq_true rfl) lm0 (fun x11 μ11 hp11 => ?_)
            have hq := hp11.1
            rw [h9] at hq
            rw [hq, hp11.2]
            refine v_if_eq (pc := 193) (tgt := 200) F dX10_statement_193 (by decide) (fun h193_12 => ?_) (fun h193_12 => ?_)
            · rw [b2i_0] at h193_12
              refine v_iconst (pc := 200) (v := (-1)) F dX10_statement_200 (by decide) ?_
              refine v_istore_n (pc := 201) (lo' := [some (.ref _), _, _, some (.int _)]) F dX10_statement_201 rfl rfl (Nat.le_of_ble_eq_true rfl) rfl ?_
              refine v_iload_n (pc := 202) (i := 3) F dX10_statement_202 rfl rfl ?_
              refine v_iconst (pc := 203) (v := (-1)) F dX10_statement_203 (by decide) ?_
              refine v_icmp_ne (pc := 204) (tgt := 209) F dX10_statement_204 (by decide) (fun h204_13 => ?_) (fun h204_13 => ?_)
              · skip
                exact absurd rfl h204_13
              · skip
                refine v_iconst (pc := 207) (v := nI 0) F dX10_statement_207 (by decide) ?_
                refine v_ireturn (pc := 208) F dX10_statement_208 (rfl) ?_
                simp only [stS, nb1, nb2, nb3, hnn, h6_2, h56_4, h89_6, h167_8, h180_10, h193_12, h204_13, ↓reduceIte]
                exact ⟨rfl, hf, Fm.rf⟩
            · rw [b2i_0] at h193_12
              rw [Classical.not_not] at h193_12
              refine v_iconst (pc := 196) (v := nI 2) F dX10_statement_196 (by decide) ?_
              refine v_goto (pc := 197) (tgt := 201) F dX10_statement_197 (by decide) ?_
              refine v_istore_n (pc := 201) (lo' := [some (.ref _), _, _, some (.int _)]) F dX10_statement_201 rfl rfl (Nat.le_of_ble_eq_true rfl) rfl ?_
              refine v_iload_n (pc := 202) (i := 3) F dX10_statement_202 rfl rfl ?_
              refine v_iconst (pc := 203) (v := (-1)) F dX10_statement_203 (by decide) ?_
              refine v_icmp_ne (pc := 204) (tgt := 209) F dX10_statement_204 (by decide) (fun h204_14 => ?_) (fun h204_14 => ?_)
              · rw [j_nm1 (by omega)] at h204_14
                refine v_aload_n (pc := 209) (i := 0) F dX10_statement_209 rfl rfl ?_
                refine v_iconst (pc := 210) (v := nI 0) F dX10_statement_210 (by decide) ?_
                refine v_aload_n (pc := 211) (i := 0) F dX10_statement_211 rfl rfl ?_
                refine v_getI (pc := 212) F fX10_89 dX10_statement_212 rfl lm0 ?_
                refine v_topE (hn) ?_
                refine v_iconst (pc := 215) (v := nI 1) F dX10_statement_215 (by decide) ?_
                refine v_isub (pc := 216) F dX10_statement_216 ?_
                refine v_callVI (pc := 217) (As := [_, _]) (rest := []) (c := 10) F mX10_number kX10_171 im_X10_number se_X10_number dX10_statement_217 rfl rfl (by decide) (c_X10_number _ n (fun v => j_pred hn8) (by omega) tp t e _ (h9) (ht) ht2 (he) (het)) (by decide) rfl rfl (Nat.le_of_ble_eq_true rfl) lm0 (fun x15 μ15 hp15 => ?_)
                rw [hp15.1]
                rcases hz15 : nbr tp t e n with _ | z15
                · skip
                  refine v_topE (y := -1) rfl ?_
                  refine v_istore_n (pc := 220) (lo' := [some (.ref _), some (.int _), _, some (.int _)]) F dX10_statement_220 rfl rfl (Nat.le_of_ble_eq_true rfl) rfl ?_
                  refine v_iload_n (pc := 221) (i := 1) F dX10_statement_221 rfl rfl ?_
                  refine v_iconst (pc := 222) (v := (-1)) F dX10_statement_222 (by decide) ?_
                  refine v_icmp_ne (pc := 223) (tgt := 230) F dX10_statement_223 (by decide) (fun h223_16 => ?_) (fun h223_16 => ?_)
                  · skip
                    exact absurd rfl h223_16
                  · skip
                    refine v_iconst (pc := 226) (v := (-1)) F dX10_statement_226 (by decide) ?_
                    refine v_goto (pc := 227) (tgt := 247) F dX10_statement_227 (by decide) ?_
                    refine v_istore_n (pc := 247) (lo' := [some (.ref _), some (.int _), some (.int _), some (.int _)]) F dX10_statement_247 rfl rfl (Nat.le_of_ble_eq_true rfl) rfl ?_
                    refine v_iload_n (pc := 248) (i := 2) F dX10_statement_248 rfl rfl ?_
                    refine v_iconst (pc := 249) (v := (-1)) F dX10_statement_249 (by decide) ?_
                    refine v_icmp_ne (pc := 250) (tgt := 255) F dX10_statement_250 (by decide) (fun h250_17 => ?_) (fun h250_17 => ?_)
                    · skip
                      exact absurd rfl h250_17
                    · skip
                      refine v_iconst (pc := 253) (v := nI 0) F dX10_statement_253 (by decide) ?_
                      refine v_ireturn (pc := 254) F dX10_statement_254 (rfl) ?_
                      simp only [stS, nb1, nb2, nb3, hnn, h6_2, h56_4, h89_6, h167_8, h180_10, h193_12, h204_14, hz15, h223_16, h250_17, ↓reduceIte]
                      exact ⟨rfl, hp15.2.2.1, (Fm.rf).tr hp15.2.1⟩
                · skip
                  have hb15 := nbr_lt (by omega) hz15
                  refine v_topE (y := nI z15) rfl ?_
                  refine v_istore_n (pc := 220) (lo' := [some (.ref _), some (.int _), _, some (.int _)]) F dX10_statement_220 rfl rfl (Nat.le_of_ble_eq_true rfl) rfl ?_
                  refine v_iload_n (pc := 221) (i := 1) F dX10_statement_221 rfl rfl ?_
                  refine v_iconst (pc := 222) (v := (-1)) F dX10_statement_222 (by decide) ?_
                  refine v_icmp_ne (pc := 223) (tgt := 230) F dX10_statement_223 (by decide) (fun h223_18 => ?_) (fun h223_18 => ?_)
                  · rw [j_nm1 (by omega)] at h223_18
                    refine v_aload_n (pc := 230) (i := 0) F dX10_statement_230 rfl rfl ?_
                    refine v_iconst (pc := 231) (v := nI 0) F dX10_statement_231 (by decide) ?_
                    refine v_iload_n (pc := 232) (i := 3) F dX10_statement_232 rfl rfl ?_
                    refine v_iconst (pc := 233) (v := nI 1) F dX10_statement_233 (by decide) ?_
                    refine v_icmp_ne (pc := 234) (tgt := 242) F dX10_statement_234 (by decide) (fun h234_19 => ?_) (fun h234_19 => ?_)
                    · rw [nI_eq (by omega) (by omega)] at h234_19
                      refine v_bipush (pc := 242) (v := nI 7) F dX10_statement_242 (by decide) ?_
                      refine v_callVI (pc := 244) (As := [_, _]) (rest := []) (c := 10) F mX10_number kX10_171 im_X10_number se_X10_number dX10_statement_244 rfl rfl (by decide) (c_X10_number _ 8 (fun v => j_wi rfl (by decide)) (by decide) tp t (tkT tp t e) _ ((PT_9 hp15.2.1).trans (h9)) ((hp15.2.1.1 0 11 (by omega)).trans (ht)) ht2 (hp15.2.2.2) ((tkT_le (het)).2)) (by decide) rfl rfl (Nat.le_of_ble_eq_true rfl) lm0 (fun x20 μ20 hp20 => ?_)
                      rw [hp20.1]
                      rcases hz20 : nbr tp t (tkT tp t e) 8 with _ | z20
                      · skip
                        refine v_topE (y := -1) rfl ?_
                        refine v_istore_n (pc := 247) (lo' := [some (.ref _), some (.int _), some (.int _), some (.int _)]) F dX10_statement_247 rfl rfl (Nat.le_of_ble_eq_true rfl) rfl ?_
                        refine v_iload_n (pc := 248) (i := 2) F dX10_statement_248 rfl rfl ?_
                        refine v_iconst (pc := 249) (v := (-1)) F dX10_statement_249 (by decide) ?_
                        refine v_icmp_ne (pc := 250) (tgt := 255) F dX10_statement_250 (by decide) (fun h250_21 => ?_) (fun h250_21 => ?_)
                        · skip
                          exact absurd rfl h250_21
                        · skip
                          refine v_iconst (pc := 253) (v := nI 0) F dX10_statement_253 (by decide) ?_
                          refine v_ireturn (pc := 254) F dX10_statement_254 (rfl) ?_
                          simp only [stS, nb1, nb2, nb3, hnn, h6_2, h56_4, h89_6, h167_8, h180_10, h193_12, h204_14, hz15, h223_18, h234_19, hz20, h250_21, ↓reduceIte]
                          exact ⟨rfl, hp20.2.2.1, ((Fm.rf).tr hp15.2.1).tr hp20.2.1⟩
                      · skip
                        have hb20 := nbr_lt (by decide) hz20
                        refine v_topE (y := nI z20) rfl ?_
                        refine v_istore_n (pc := 247) (lo' := [some (.ref _), some (.int _), some (.int _), some (.int _)]) F dX10_statement_247 rfl rfl (Nat.le_of_ble_eq_true rfl) rfl ?_
                        refine v_iload_n (pc := 248) (i := 2) F dX10_statement_248 rfl rfl ?_
                        refine v_iconst (pc := 249) (v := (-1)) F dX10_statement_249 (by decide) ?_
                        refine v_icmp_ne (pc := 250) (tgt := 255) F dX10_statement_250 (by decide) (fun h250_22 => ?_) (fun h250_22 => ?_)
                        · rw [j_nm1 (by omega)] at h250_22
                          refine v_iload_n (pc := 255) (i := 3) F dX10_statement_255 rfl rfl ?_
                          refine v_if_ne (pc := 256) (tgt := 274) F dX10_statement_256 (by decide) (fun h256_23 => ?_) (fun h256_23 => ?_)
                          · rw [j_eq0 (by omega)] at h256_23
                            refine v_iload_n (pc := 274) (i := 3) F dX10_statement_274 rfl rfl ?_
                            refine v_iconst (pc := 275) (v := nI 1) F dX10_statement_275 (by decide) ?_
                            refine v_icmp_ne (pc := 276) (tgt := 289) F dX10_statement_276 (by decide) (fun h276_24 => ?_) (fun h276_24 => ?_)
                            · rw [nI_eq (by omega) (by omega)] at h276_24
                              refine v_aload_n (pc := 289) (i := 0) F dX10_statement_289 rfl rfl ?_
                              refine v_getR (pc := 290) (o := 7) F fX10_28 dX10_statement_290 rfl lm0 ?_
                              refine v_topR (y := 7) rfl ?_
                              refine v_iload_n (pc := 293) (i := 1) F dX10_statement_293 rfl rfl ?_
                              refine v_iload_n (pc := 294) (i := 2) F dX10_statement_294 rfl rfl ?_
                              refine v_iastN (pc := 295) (k0 := z15) F dX10_statement_295 (lm10_7 lm0) (rfl) (by omega) (by decide) ?_
                              refine v_iconst (pc := 296) (v := nI 1) F dX10_statement_296 (by decide) ?_
                              refine v_ireturn (pc := 297) F dX10_statement_297 (rfl) ?_
                              simp only [stS, nb1, nb2, nb3, hnn, h6_2, h56_4, h89_6, h167_8, h180_10, h193_12, h204_14, hz15, h223_18, h234_19, hz20, h250_22, h256_23, h276_24, ↓reduceIte]
                              refine ⟨rfl, (j_pI_off (by omega)).trans (hp20.2.2.2), ?_⟩
                              exact (((Fm.rf).tr hp15.2.1).tr hp20.2.1).both
                            · rw [nI_eq (by omega) (by omega)] at h276_24
                              exact absurd h276_24 (by decide)
                          · rw [j_eq0 (by omega)] at h256_23
                            exact absurd h256_23 (by decide)
                        · rw [j_nm1 (by omega)] at h250_22
                          exact h250_22.elim
                    · rw [nI_eq (by omega) (by omega)] at h234_19
                      exact absurd h234_19 (by decide)
                  · rw [j_nm1 (by omega)] at h223_18
                    exact h223_18.elim
              · rw [j_nm1 (by omega)] at h204_14
                exact h204_14.elim
          · rw [b2i_0] at h180_10
            rw [Classical.not_not] at h180_10
            refine v_iconst (pc := 183) (v := nI 1) F dX10_statement_183 (by decide) ?_
            refine v_goto (pc := 184) (tgt := 201) F dX10_statement_184 (by decide) ?_
            refine v_istore_n (pc := 201) (lo' := [some (.ref _), _, _, some (.int _)]) F dX10_statement_201 rfl rfl (Nat.le_of_ble_eq_true rfl) rfl ?_
            refine v_iload_n (pc := 202) (i := 3) F dX10_statement_202 rfl rfl ?_
            refine v_iconst (pc := 203) (v := (-1)) F dX10_statement_203 (by decide) ?_
            refine v_icmp_ne (pc := 204) (tgt := 209) F dX10_statement_204 (by decide) (fun h204_25 => ?_) (fun h204_25 => ?_)
            · rw [j_nm1 (by omega)] at h204_25
              refine v_aload_n (pc := 209) (i := 0) F dX10_statement_209 rfl rfl ?_
              refine v_iconst (pc := 210) (v := nI 0) F dX10_statement_210 (by decide) ?_
              refine v_aload_n (pc := 211) (i := 0) F dX10_statement_211 rfl rfl ?_
              refine v_getI (pc := 212) F fX10_89 dX10_statement_212 rfl lm0 ?_
              refine v_topE (hn) ?_
              refine v_iconst (pc := 215) (v := nI 1) F dX10_statement_215 (by decide) ?_
              refine v_isub (pc := 216) F dX10_statement_216 ?_
              refine v_callVI (pc := 217) (As := [_, _]) (rest := []) (c := 10) F mX10_number kX10_171 im_X10_number se_X10_number dX10_statement_217 rfl rfl (by decide) (c_X10_number _ n (fun v => j_pred hn8) (by omega) tp t e _ (h9) (ht) ht2 (he) (het)) (by decide) rfl rfl (Nat.le_of_ble_eq_true rfl) lm0 (fun x26 μ26 hp26 => ?_)
              rw [hp26.1]
              rcases hz26 : nbr tp t e n with _ | z26
              · skip
                refine v_topE (y := -1) rfl ?_
                refine v_istore_n (pc := 220) (lo' := [some (.ref _), some (.int _), _, some (.int _)]) F dX10_statement_220 rfl rfl (Nat.le_of_ble_eq_true rfl) rfl ?_
                refine v_iload_n (pc := 221) (i := 1) F dX10_statement_221 rfl rfl ?_
                refine v_iconst (pc := 222) (v := (-1)) F dX10_statement_222 (by decide) ?_
                refine v_icmp_ne (pc := 223) (tgt := 230) F dX10_statement_223 (by decide) (fun h223_27 => ?_) (fun h223_27 => ?_)
                · skip
                  exact absurd rfl h223_27
                · skip
                  refine v_iconst (pc := 226) (v := (-1)) F dX10_statement_226 (by decide) ?_
                  refine v_goto (pc := 227) (tgt := 247) F dX10_statement_227 (by decide) ?_
                  refine v_istore_n (pc := 247) (lo' := [some (.ref _), some (.int _), some (.int _), some (.int _)]) F dX10_statement_247 rfl rfl (Nat.le_of_ble_eq_true rfl) rfl ?_
                  refine v_iload_n (pc := 248) (i := 2) F dX10_statement_248 rfl rfl ?_
                  refine v_iconst (pc := 249) (v := (-1)) F dX10_statement_249 (by decide) ?_
                  refine v_icmp_ne (pc := 250) (tgt := 255) F dX10_statement_250 (by decide) (fun h250_28 => ?_) (fun h250_28 => ?_)
                  · skip
                    exact absurd rfl h250_28
                  · skip
                    refine v_iconst (pc := 253) (v := nI 0) F dX10_statement_253 (by decide) ?_
                    refine v_ireturn (pc := 254) F dX10_statement_254 (rfl) ?_
                    simp only [stS, nb1, nb2, nb3, hnn, h6_2, h56_4, h89_6, h167_8, h180_10, h204_25, hz26, h223_27, h250_28, ↓reduceIte]
                    exact ⟨rfl, hp26.2.2.1, (Fm.rf).tr hp26.2.1⟩
              · skip
                have hb26 := nbr_lt (by omega) hz26
                refine v_topE (y := nI z26) rfl ?_
                refine v_istore_n (pc := 220) (lo' := [some (.ref _), some (.int _), _, some (.int _)]) F dX10_statement_220 rfl rfl (Nat.le_of_ble_eq_true rfl) rfl ?_
                refine v_iload_n (pc := 221) (i := 1) F dX10_statement_221 rfl rfl ?_
                refine v_iconst (pc := 222) (v := (-1)) F dX10_statement_222 (by decide) ?_
                refine v_icmp_ne (pc := 223) (tgt := 230) F dX10_statement_223 (by decide) (fun h223_29 => ?_) (fun h223_29 => ?_)
                · rw [j_nm1 (by omega)] at h223_29
                  refine v_aload_n (pc := 230) (i := 0) F dX10_statement_230 rfl rfl ?_
                  refine v_iconst (pc := 231) (v := nI 0) F dX10_statement_231 (by decide) ?_
                  refine v_iload_n (pc := 232) (i := 3) F dX10_statement_232 rfl rfl ?_
                  refine v_iconst (pc := 233) (v := nI 1) F dX10_statement_233 (by decide) ?_
                  refine v_icmp_ne (pc := 234) (tgt := 242) F dX10_statement_234 (by decide) (fun h234_30 => ?_) (fun h234_30 => ?_)
                  · rw [nI_eq (by omega) (by omega)] at h234_30
                    exact absurd h234_30 (by decide)
                  · rw [nI_eq (by omega) (by omega)] at h234_30
                    refine v_bipush (pc := 237) (v := nI 12) F dX10_statement_237 (by decide) ?_
                    refine v_goto (pc := 239) (tgt := 244) F dX10_statement_239 (by decide) ?_
                    refine v_callVI (pc := 244) (As := [_, _]) (rest := []) (c := 10) F mX10_number kX10_171 im_X10_number se_X10_number dX10_statement_244 rfl rfl (by decide) (c_X10_number _ 13 (fun v => j_wi rfl (by decide)) (by decide) tp t (tkT tp t e) _ ((PT_9 hp26.2.1).trans (h9)) ((hp26.2.1.1 0 11 (by omega)).trans (ht)) ht2 (hp26.2.2.2) ((tkT_le (het)).2)) (by decide) rfl rfl (Nat.le_of_ble_eq_true rfl) lm0 (fun x31 μ31 hp31 => ?_)
                    rw [hp31.1]
                    rcases hz31 : nbr tp t (tkT tp t e) 13 with _ | z31
                    · skip
                      refine v_topE (y := -1) rfl ?_
                      refine v_istore_n (pc := 247) (lo' := [some (.ref _), some (.int _), some (.int _), some (.int _)]) F dX10_statement_247 rfl rfl (Nat.le_of_ble_eq_true rfl) rfl ?_
                      refine v_iload_n (pc := 248) (i := 2) F dX10_statement_248 rfl rfl ?_
                      refine v_iconst (pc := 249) (v := (-1)) F dX10_statement_249 (by decide) ?_
                      refine v_icmp_ne (pc := 250) (tgt := 255) F dX10_statement_250 (by decide) (fun h250_32 => ?_) (fun h250_32 => ?_)
                      · skip
                        exact absurd rfl h250_32
                      · skip
                        refine v_iconst (pc := 253) (v := nI 0) F dX10_statement_253 (by decide) ?_
                        refine v_ireturn (pc := 254) F dX10_statement_254 (rfl) ?_
                        simp only [stS, nb1, nb2, nb3, hnn, h6_2, h56_4, h89_6, h167_8, h180_10, h204_25, hz26, h223_29, h234_30, hz31, h250_32, ↓reduceIte]
                        exact ⟨rfl, hp31.2.2.1, ((Fm.rf).tr hp26.2.1).tr hp31.2.1⟩
                    · skip
                      have hb31 := nbr_lt (by decide) hz31
                      refine v_topE (y := nI z31) rfl ?_
                      refine v_istore_n (pc := 247) (lo' := [some (.ref _), some (.int _), some (.int _), some (.int _)]) F dX10_statement_247 rfl rfl (Nat.le_of_ble_eq_true rfl) rfl ?_
                      refine v_iload_n (pc := 248) (i := 2) F dX10_statement_248 rfl rfl ?_
                      refine v_iconst (pc := 249) (v := (-1)) F dX10_statement_249 (by decide) ?_
                      refine v_icmp_ne (pc := 250) (tgt := 255) F dX10_statement_250 (by decide) (fun h250_33 => ?_) (fun h250_33 => ?_)
                      · rw [j_nm1 (by omega)] at h250_33
                        refine v_iload_n (pc := 255) (i := 3) F dX10_statement_255 rfl rfl ?_
                        refine v_if_ne (pc := 256) (tgt := 274) F dX10_statement_256 (by decide) (fun h256_34 => ?_) (fun h256_34 => ?_)
                        · rw [j_eq0 (by omega)] at h256_34
                          refine v_iload_n (pc := 274) (i := 3) F dX10_statement_274 rfl rfl ?_
                          refine v_iconst (pc := 275) (v := nI 1) F dX10_statement_275 (by decide) ?_
                          refine v_icmp_ne (pc := 276) (tgt := 289) F dX10_statement_276 (by decide) (fun h276_35 => ?_) (fun h276_35 => ?_)
                          · rw [nI_eq (by omega) (by omega)] at h276_35
                            exact absurd h276_35 (by decide)
                          · rw [nI_eq (by omega) (by omega)] at h276_35
                            refine v_aload_n (pc := 279) (i := 0) F dX10_statement_279 rfl rfl ?_
                            refine v_getR (pc := 280) (o := 6) F fX10_25 dX10_statement_280 rfl lm0 ?_
                            refine v_topR (y := 6) rfl ?_
                            refine v_iload_n (pc := 283) (i := 1) F dX10_statement_283 rfl rfl ?_
                            refine v_iload_n (pc := 284) (i := 2) F dX10_statement_284 rfl rfl ?_
                            refine v_iastN (pc := 285) (k0 := z26) F dX10_statement_285 (lm10_6 lm0) (rfl) (by omega) (by decide) ?_
                            refine v_goto (pc := 286) (tgt := 296) F dX10_statement_286 (by decide) ?_
                            refine v_iconst (pc := 296) (v := nI 1) F dX10_statement_296 (by decide) ?_
                            refine v_ireturn (pc := 297) F dX10_statement_297 (rfl) ?_
                            simp only [stS, nb1, nb2, nb3, hnn, h6_2, h56_4, h89_6, h167_8, h180_10, h204_25, hz26, h223_29, h234_30, hz31, h250_33, h256_34, h276_35, ↓reduceIte]
                            refine ⟨rfl, (j_pI_off (by omega)).trans (hp31.2.2.2), ?_⟩
                            exact (((Fm.rf).tr hp26.2.1).tr hp31.2.1).both
                        · rw [j_eq0 (by omega)] at h256_34
                          exact absurd h256_34 (by decide)
                      · rw [j_nm1 (by omega)] at h250_33
                        exact h250_33.elim
                · rw [j_nm1 (by omega)] at h223_29
                  exact h223_29.elim
            · rw [j_nm1 (by omega)] at h204_25
              exact h204_25.elim
        · rw [b2i_0] at h167_8
          rw [Classical.not_not] at h167_8
          refine v_iconst (pc := 170) (v := nI 0) F dX10_statement_170 (by decide) ?_
          refine v_goto (pc := 171) (tgt := 201) F dX10_statement_171 (by decide) ?_
          refine v_istore_n (pc := 201) (lo' := [some (.ref _), _, _, some (.int _)]) F dX10_statement_201 rfl rfl (Nat.le_of_ble_eq_true rfl) rfl ?_
          refine v_iload_n (pc := 202) (i := 3) F dX10_statement_202 rfl rfl ?_
          refine v_iconst (pc := 203) (v := (-1)) F dX10_statement_203 (by decide) ?_
          refine v_icmp_ne (pc := 204) (tgt := 209) F dX10_statement_204 (by decide) (fun h204_36 => ?_) (fun h204_36 => ?_)
          · rw [j_nm1 (by omega)] at h204_36
            refine v_aload_n (pc := 209) (i := 0) F dX10_statement_209 rfl rfl ?_
            refine v_iconst (pc := 210) (v := nI 0) F dX10_statement_210 (by decide) ?_
            refine v_aload_n (pc := 211) (i := 0) F dX10_statement_211 rfl rfl ?_
            refine v_getI (pc := 212) F fX10_89 dX10_statement_212 rfl lm0 ?_
            refine v_topE (hn) ?_
            refine v_iconst (pc := 215) (v := nI 1) F dX10_statement_215 (by decide) ?_
            refine v_isub (pc := 216) F dX10_statement_216 ?_
            refine v_callVI (pc := 217) (As := [_, _]) (rest := []) (c := 10) F mX10_number kX10_171 im_X10_number se_X10_number dX10_statement_217 rfl rfl (by decide) (c_X10_number _ n (fun v => j_pred hn8) (by omega) tp t e _ (h9) (ht) ht2 (he) (het)) (by decide) rfl rfl (Nat.le_of_ble_eq_true rfl) lm0 (fun x37 μ37 hp37 => ?_)
            rw [hp37.1]
            rcases hz37 : nbr tp t e n with _ | z37
            · skip
              refine v_topE (y := -1) rfl ?_
              refine v_istore_n (pc := 220) (lo' := [some (.ref _), some (.int _), _, some (.int _)]) F dX10_statement_220 rfl rfl (Nat.le_of_ble_eq_true rfl) rfl ?_
              refine v_iload_n (pc := 221) (i := 1) F dX10_statement_221 rfl rfl ?_
              refine v_iconst (pc := 222) (v := (-1)) F dX10_statement_222 (by decide) ?_
              refine v_icmp_ne (pc := 223) (tgt := 230) F dX10_statement_223 (by decide) (fun h223_38 => ?_) (fun h223_38 => ?_)
              · skip
                exact absurd rfl h223_38
              · skip
                refine v_iconst (pc := 226) (v := (-1)) F dX10_statement_226 (by decide) ?_
                refine v_goto (pc := 227) (tgt := 247) F dX10_statement_227 (by decide) ?_
                refine v_istore_n (pc := 247) (lo' := [some (.ref _), some (.int _), some (.int _), some (.int _)]) F dX10_statement_247 rfl rfl (Nat.le_of_ble_eq_true rfl) rfl ?_
                refine v_iload_n (pc := 248) (i := 2) F dX10_statement_248 rfl rfl ?_
                refine v_iconst (pc := 249) (v := (-1)) F dX10_statement_249 (by decide) ?_
                refine v_icmp_ne (pc := 250) (tgt := 255) F dX10_statement_250 (by decide) (fun h250_39 => ?_) (fun h250_39 => ?_)
                · skip
                  exact absurd rfl h250_39
                · skip
                  refine v_iconst (pc := 253) (v := nI 0) F dX10_statement_253 (by decide) ?_
                  refine v_ireturn (pc := 254) F dX10_statement_254 (rfl) ?_
                  simp only [stS, nb1, nb2, nb3, hnn, h6_2, h56_4, h89_6, h167_8, h204_36, hz37, h223_38, h250_39, ↓reduceIte]
                  exact ⟨rfl, hp37.2.2.1, (Fm.rf).tr hp37.2.1⟩
            · skip
              have hb37 := nbr_lt (by omega) hz37
              refine v_topE (y := nI z37) rfl ?_
              refine v_istore_n (pc := 220) (lo' := [some (.ref _), some (.int _), _, some (.int _)]) F dX10_statement_220 rfl rfl (Nat.le_of_ble_eq_true rfl) rfl ?_
              refine v_iload_n (pc := 221) (i := 1) F dX10_statement_221 rfl rfl ?_
              refine v_iconst (pc := 222) (v := (-1)) F dX10_statement_222 (by decide) ?_
              refine v_icmp_ne (pc := 223) (tgt := 230) F dX10_statement_223 (by decide) (fun h223_40 => ?_) (fun h223_40 => ?_)
              · rw [j_nm1 (by omega)] at h223_40
                refine v_aload_n (pc := 230) (i := 0) F dX10_statement_230 rfl rfl ?_
                refine v_iconst (pc := 231) (v := nI 0) F dX10_statement_231 (by decide) ?_
                refine v_iload_n (pc := 232) (i := 3) F dX10_statement_232 rfl rfl ?_
                refine v_iconst (pc := 233) (v := nI 1) F dX10_statement_233 (by decide) ?_
                refine v_icmp_ne (pc := 234) (tgt := 242) F dX10_statement_234 (by decide) (fun h234_41 => ?_) (fun h234_41 => ?_)
                · rw [nI_eq (by omega) (by omega)] at h234_41
                  refine v_bipush (pc := 242) (v := nI 7) F dX10_statement_242 (by decide) ?_
                  refine v_callVI (pc := 244) (As := [_, _]) (rest := []) (c := 10) F mX10_number kX10_171 im_X10_number se_X10_number dX10_statement_244 rfl rfl (by decide) (c_X10_number _ 8 (fun v => j_wi rfl (by decide)) (by decide) tp t (tkT tp t e) _ ((PT_9 hp37.2.1).trans (h9)) ((hp37.2.1.1 0 11 (by omega)).trans (ht)) ht2 (hp37.2.2.2) ((tkT_le (het)).2)) (by decide) rfl rfl (Nat.le_of_ble_eq_true rfl) lm0 (fun x42 μ42 hp42 => ?_)
                  rw [hp42.1]
                  rcases hz42 : nbr tp t (tkT tp t e) 8 with _ | z42
                  · skip
                    refine v_topE (y := -1) rfl ?_
                    refine v_istore_n (pc := 247) (lo' := [some (.ref _), some (.int _), some (.int _), some (.int _)]) F dX10_statement_247 rfl rfl (Nat.le_of_ble_eq_true rfl) rfl ?_
                    refine v_iload_n (pc := 248) (i := 2) F dX10_statement_248 rfl rfl ?_
                    refine v_iconst (pc := 249) (v := (-1)) F dX10_statement_249 (by decide) ?_
                    refine v_icmp_ne (pc := 250) (tgt := 255) F dX10_statement_250 (by decide) (fun h250_43 => ?_) (fun h250_43 => ?_)
                    · skip
                      exact absurd rfl h250_43
                    · skip
                      refine v_iconst (pc := 253) (v := nI 0) F dX10_statement_253 (by decide) ?_
                      refine v_ireturn (pc := 254) F dX10_statement_254 (rfl) ?_
                      simp only [stS, nb1, nb2, nb3, hnn, h6_2, h56_4, h89_6, h167_8, h204_36, hz37, h223_40, h234_41, hz42, h250_43, ↓reduceIte]
                      exact ⟨rfl, hp42.2.2.1, ((Fm.rf).tr hp37.2.1).tr hp42.2.1⟩
                  · skip
                    have hb42 := nbr_lt (by decide) hz42
                    refine v_topE (y := nI z42) rfl ?_
                    refine v_istore_n (pc := 247) (lo' := [some (.ref _), some (.int _), some (.int _), some (.int _)]) F dX10_statement_247 rfl rfl (Nat.le_of_ble_eq_true rfl) rfl ?_
                    refine v_iload_n (pc := 248) (i := 2) F dX10_statement_248 rfl rfl ?_
                    refine v_iconst (pc := 249) (v := (-1)) F dX10_statement_249 (by decide) ?_
                    refine v_icmp_ne (pc := 250) (tgt := 255) F dX10_statement_250 (by decide) (fun h250_44 => ?_) (fun h250_44 => ?_)
                    · rw [j_nm1 (by omega)] at h250_44
                      refine v_iload_n (pc := 255) (i := 3) F dX10_statement_255 rfl rfl ?_
                      refine v_if_ne (pc := 256) (tgt := 274) F dX10_statement_256 (by decide) (fun h256_45 => ?_) (fun h256_45 => ?_)
                      · rw [j_eq0 (by omega)] at h256_45
                        exact absurd h256_45 (by decide)
                      · rw [j_eq0 (by omega)] at h256_45
                        refine v_aload_n (pc := 259) (i := 0) F dX10_statement_259 rfl rfl ?_
                        refine v_getR (pc := 260) (o := 5) F fX10_22 dX10_statement_260 rfl lm0 ?_
                        refine v_topR (y := 5) rfl ?_
                        refine v_iload_n (pc := 263) (i := 1) F dX10_statement_263 rfl rfl ?_
                        refine v_dup2 (pc := 264) F dX10_statement_264 rfl rfl ?_
                        refine v_ialdN (pc := 265) (k0 := z37) F dX10_statement_265 (lm10_5 lm0) (rfl) (by omega) (by decide) ?_
                        refine v_iconst (pc := 266) (v := nI 1) F dX10_statement_266 (by decide) ?_
                        refine v_iload_n (pc := 267) (i := 2) F dX10_statement_267 rfl rfl ?_
                        refine v_ishl (pc := 268) F dX10_statement_268 ?_
                        refine v_ior (pc := 269) F dX10_statement_269 ?_
                        refine v_iastN (pc := 270) (k0 := z37) F dX10_statement_270 (lm10_5 lm0) (rfl) (by omega) (by decide) ?_
                        refine v_goto (pc := 271) (tgt := 296) F dX10_statement_271 (by decide) ?_
                        refine v_iconst (pc := 296) (v := nI 1) F dX10_statement_296 (by decide) ?_
                        refine v_ireturn (pc := 297) F dX10_statement_297 (rfl) ?_
                        simp only [stS, nb1, nb2, nb3, hnn, h6_2, h56_4, h89_6, h167_8, h204_36, hz37, h223_40, h234_41, hz42, h250_44, h256_45, ↓reduceIte]
                        refine ⟨rfl, (j_pI_off (by omega)).trans (hp42.2.2.2), ?_⟩
                        rw [(((Fm.rf).tr hp37.2.1).tr hp42.2.1).1 5 _ (by omega)]
                        exact (((Fm.rf).tr hp37.2.1).tr hp42.2.1).both
                    · rw [j_nm1 (by omega)] at h250_44
                      exact h250_44.elim
                · rw [nI_eq (by omega) (by omega)] at h234_41
                  exact absurd h234_41 (by decide)
              · rw [j_nm1 (by omega)] at h223_40
                exact h223_40.elim
          · rw [j_nm1 (by omega)] at h204_36
            exact h204_36.elim
      · rw [b2i_0] at h89_6
        rw [Classical.not_not] at h89_6
        refine v_aload_n (pc := 92) (i := 0) F dX10_statement_92 rfl rfl ?_
        refine v_getI (pc := 93) F fX10_89 dX10_statement_93 rfl lm0 ?_
        refine v_topE (hn) ?_
        refine v_bipush (pc := 96) (v := nI 8) F dX10_statement_96 (by decide) ?_
        refine v_icmp_ne (pc := 98) (tgt := 103) F dX10_statement_98 (by decide) (fun h98_46 => ?_) (fun h98_46 => ?_)
        · rw [nI_eq (by omega) (by omega)] at h98_46
          refine v_aload_n (pc := 103) (i := 0) F dX10_statement_103 rfl rfl ?_
          refine v_iconst (pc := 104) (v := nI 0) F dX10_statement_104 (by decide) ?_
          refine v_iconst (pc := 105) (v := nI 5) F dX10_statement_105 (by decide) ?_
          refine v_callVI (pc := 106) (As := [_, _]) (rest := []) (c := 10) F mX10_number kX10_171 im_X10_number se_X10_number dX10_statement_106 rfl rfl (by decide) (c_X10_number _ 6 (fun v => j_wi rfl (by decide)) (by decide) tp t e _ (h9) (ht) ht2 (he) (het)) (by decide) rfl rfl (Nat.le_of_ble_eq_true rfl) lm0 (fun x47 μ47 hp47 => ?_)
          rw [hp47.1]
          rcases hz47 : nbr tp t e 6 with _ | z47
          · skip
            refine v_topE (y := -1) rfl ?_
            refine v_istore_n (pc := 109) (lo' := [some (.ref _), some (.int _), _, _]) F dX10_statement_109 rfl rfl (Nat.le_of_ble_eq_true rfl) rfl ?_
            refine v_iload_n (pc := 110) (i := 1) F dX10_statement_110 rfl rfl ?_
            refine v_iconst (pc := 111) (v := (-1)) F dX10_statement_111 (by decide) ?_
            refine v_icmp_ne (pc := 112) (tgt := 119) F dX10_statement_112 (by decide) (fun h112_48 => ?_) (fun h112_48 => ?_)
            · skip
              exact absurd rfl h112_48
            · skip
              refine v_iconst (pc := 115) (v := (-1)) F dX10_statement_115 (by decide) ?_
              refine v_goto (pc := 116) (tgt := 126) F dX10_statement_116 (by decide) ?_
              refine v_istore_n (pc := 126) (lo' := [some (.ref _), some (.int _), some (.int _), _]) F dX10_statement_126 rfl rfl (Nat.le_of_ble_eq_true rfl) rfl ?_
              refine v_iload_n (pc := 127) (i := 2) F dX10_statement_127 rfl rfl ?_
              refine v_iconst (pc := 128) (v := (-1)) F dX10_statement_128 (by decide) ?_
              refine v_icmp_ne (pc := 129) (tgt := 136) F dX10_statement_129 (by decide) (fun h129_49 => ?_) (fun h129_49 => ?_)
              · skip
                exact absurd rfl h129_49
              · skip
                refine v_iconst (pc := 132) (v := (-1)) F dX10_statement_132 (by decide) ?_
                refine v_goto (pc := 133) (tgt := 143) F dX10_statement_133 (by decide) ?_
                refine v_istore_n (pc := 143) (lo' := [some (.ref _), some (.int _), some (.int _), some (.int _)]) F dX10_statement_143 rfl rfl (Nat.le_of_ble_eq_true rfl) rfl ?_
                refine v_iload_n (pc := 144) (i := 3) F dX10_statement_144 rfl rfl ?_
                refine v_iconst (pc := 145) (v := (-1)) F dX10_statement_145 (by decide) ?_
                refine v_icmp_ne (pc := 146) (tgt := 151) F dX10_statement_146 (by decide) (fun h146_50 => ?_) (fun h146_50 => ?_)
                · skip
                  exact absurd rfl h146_50
                · skip
                  refine v_iconst (pc := 149) (v := nI 0) F dX10_statement_149 (by decide) ?_
                  refine v_ireturn (pc := 150) F dX10_statement_150 (rfl) ?_
                  simp only [stS, nb1, nb2, nb3, hnn, h6_2, h56_4, h89_6, h98_46, hz47, h112_48, h129_49, h146_50, ↓reduceIte]
                  exact ⟨rfl, hp47.2.2.1, (Fm.rf).tr hp47.2.1⟩
          · skip
            have hb47 := nbr_lt (by decide) hz47
            refine v_topE (y := nI z47) rfl ?_
            refine v_istore_n (pc := 109) (lo' := [some (.ref _), some (.int _), _, _]) F dX10_statement_109 rfl rfl (Nat.le_of_ble_eq_true rfl) rfl ?_
            refine v_iload_n (pc := 110) (i := 1) F dX10_statement_110 rfl rfl ?_
            refine v_iconst (pc := 111) (v := (-1)) F dX10_statement_111 (by decide) ?_
            refine v_icmp_ne (pc := 112) (tgt := 119) F dX10_statement_112 (by decide) (fun h112_51 => ?_) (fun h112_51 => ?_)
            · rw [j_nm1 (by omega)] at h112_51
              refine v_aload_n (pc := 119) (i := 0) F dX10_statement_119 rfl rfl ?_
              refine v_iconst (pc := 120) (v := nI 0) F dX10_statement_120 (by decide) ?_
              refine v_bipush (pc := 121) (v := nI 7) F dX10_statement_121 (by decide) ?_
              refine v_callVI (pc := 123) (As := [_, _]) (rest := []) (c := 10) F mX10_number kX10_171 im_X10_number se_X10_number dX10_statement_123 rfl rfl (by decide) (c_X10_number _ 8 (fun v => j_wi rfl (by decide)) (by decide) tp t (tkT tp t e) _ ((PT_9 hp47.2.1).trans (h9)) ((hp47.2.1.1 0 11 (by omega)).trans (ht)) ht2 (hp47.2.2.2) ((tkT_le (het)).2)) (by decide) rfl rfl (Nat.le_of_ble_eq_true rfl) lm0 (fun x52 μ52 hp52 => ?_)
              rw [hp52.1]
              rcases hz52 : nbr tp t (tkT tp t e) 8 with _ | z52
              · skip
                refine v_topE (y := -1) rfl ?_
                refine v_istore_n (pc := 126) (lo' := [some (.ref _), some (.int _), some (.int _), _]) F dX10_statement_126 rfl rfl (Nat.le_of_ble_eq_true rfl) rfl ?_
                refine v_iload_n (pc := 127) (i := 2) F dX10_statement_127 rfl rfl ?_
                refine v_iconst (pc := 128) (v := (-1)) F dX10_statement_128 (by decide) ?_
                refine v_icmp_ne (pc := 129) (tgt := 136) F dX10_statement_129 (by decide) (fun h129_53 => ?_) (fun h129_53 => ?_)
                · skip
                  exact absurd rfl h129_53
                · skip
                  refine v_iconst (pc := 132) (v := (-1)) F dX10_statement_132 (by decide) ?_
                  refine v_goto (pc := 133) (tgt := 143) F dX10_statement_133 (by decide) ?_
                  refine v_istore_n (pc := 143) (lo' := [some (.ref _), some (.int _), some (.int _), some (.int _)]) F dX10_statement_143 rfl rfl (Nat.le_of_ble_eq_true rfl) rfl ?_
                  refine v_iload_n (pc := 144) (i := 3) F dX10_statement_144 rfl rfl ?_
                  refine v_iconst (pc := 145) (v := (-1)) F dX10_statement_145 (by decide) ?_
                  refine v_icmp_ne (pc := 146) (tgt := 151) F dX10_statement_146 (by decide) (fun h146_54 => ?_) (fun h146_54 => ?_)
                  · skip
                    exact absurd rfl h146_54
                  · skip
                    refine v_iconst (pc := 149) (v := nI 0) F dX10_statement_149 (by decide) ?_
                    refine v_ireturn (pc := 150) F dX10_statement_150 (rfl) ?_
                    simp only [stS, nb1, nb2, nb3, hnn, h6_2, h56_4, h89_6, h98_46, hz47, h112_51, hz52, h129_53, h146_54, ↓reduceIte]
                    exact ⟨rfl, hp52.2.2.1, ((Fm.rf).tr hp47.2.1).tr hp52.2.1⟩
              · skip
                have hb52 := nbr_lt (by decide) hz52
                refine v_topE (y := nI z52) rfl ?_
                refine v_istore_n (pc := 126) (lo' := [some (.ref _), some (.int _), some (.int _), _]) F dX10_statement_126 rfl rfl (Nat.le_of_ble_eq_true rfl) rfl ?_
                refine v_iload_n (pc := 127) (i := 2) F dX10_statement_127 rfl rfl ?_
                refine v_iconst (pc := 128) (v := (-1)) F dX10_statement_128 (by decide) ?_
                refine v_icmp_ne (pc := 129) (tgt := 136) F dX10_statement_129 (by decide) (fun h129_55 => ?_) (fun h129_55 => ?_)
                · rw [j_nm1 (by omega)] at h129_55
                  refine v_aload_n (pc := 136) (i := 0) F dX10_statement_136 rfl rfl ?_
                  refine v_iconst (pc := 137) (v := nI 0) F dX10_statement_137 (by decide) ?_
                  refine v_bipush (pc := 138) (v := nI 99) F dX10_statement_138 (by decide) ?_
                  refine v_callVI (pc := 140) (As := [_, _]) (rest := []) (c := 10) F mX10_number kX10_171 im_X10_number se_X10_number dX10_statement_140 rfl rfl (by decide) (c_X10_number _ 100 (fun v => j_wi rfl (by decide)) (by decide) tp t (tkT tp t (tkT tp t e)) _ ((PT_9 hp52.2.1).trans ((PT_9 hp47.2.1).trans (h9))) ((hp52.2.1.1 0 11 (by omega)).trans ((hp47.2.1.1 0 11 (by omega)).trans (ht))) ht2 (hp52.2.2.2) ((tkT_le ((tkT_le (het)).2)).2)) (by decide) rfl rfl (Nat.le_of_ble_eq_true rfl) lm0 (fun x56 μ56 hp56 => ?_)
                  rw [hp56.1]
                  rcases hz56 : nbr tp t (tkT tp t (tkT tp t e)) 100 with _ | z56
                  · skip
                    refine v_topE (y := -1) rfl ?_
                    refine v_istore_n (pc := 143) (lo' := [some (.ref _), some (.int _), some (.int _), some (.int _)]) F dX10_statement_143 rfl rfl (Nat.le_of_ble_eq_true rfl) rfl ?_
                    refine v_iload_n (pc := 144) (i := 3) F dX10_statement_144 rfl rfl ?_
                    refine v_iconst (pc := 145) (v := (-1)) F dX10_statement_145 (by decide) ?_
                    refine v_icmp_ne (pc := 146) (tgt := 151) F dX10_statement_146 (by decide) (fun h146_57 => ?_) (fun h146_57 => ?_)
                    · skip
                      exact absurd rfl h146_57
                    · skip
                      refine v_iconst (pc := 149) (v := nI 0) F dX10_statement_149 (by decide) ?_
                      refine v_ireturn (pc := 150) F dX10_statement_150 (rfl) ?_
                      simp only [stS, nb1, nb2, nb3, hnn, h6_2, h56_4, h89_6, h98_46, hz47, h112_51, hz52, h129_55, hz56, h146_57, ↓reduceIte]
                      exact ⟨rfl, hp56.2.2.1, (((Fm.rf).tr hp47.2.1).tr hp52.2.1).tr hp56.2.1⟩
                  · skip
                    have hb56 := nbr_lt (by decide) hz56
                    refine v_topE (y := nI z56) rfl ?_
                    refine v_istore_n (pc := 143) (lo' := [some (.ref _), some (.int _), some (.int _), some (.int _)]) F dX10_statement_143 rfl rfl (Nat.le_of_ble_eq_true rfl) rfl ?_
                    refine v_iload_n (pc := 144) (i := 3) F dX10_statement_144 rfl rfl ?_
                    refine v_iconst (pc := 145) (v := (-1)) F dX10_statement_145 (by decide) ?_
                    refine v_icmp_ne (pc := 146) (tgt := 151) F dX10_statement_146 (by decide) (fun h146_58 => ?_) (fun h146_58 => ?_)
                    · rw [j_nm1 (by omega)] at h146_58
                      refine v_aload_n (pc := 151) (i := 0) F dX10_statement_151 rfl rfl ?_
                      refine v_iload_n (pc := 152) (i := 1) F dX10_statement_152 rfl rfl ?_
                      refine v_iload_n (pc := 153) (i := 2) F dX10_statement_153 rfl rfl ?_
                      refine v_iload_n (pc := 154) (i := 3) F dX10_statement_154 rfl rfl ?_
                      refine v_callVI (pc := 155) (As := [_, _, _]) (rest := []) (c := 10) F mX10_newLooker kX10_127 im_X10_newLooker se_X10_newLooker dX10_statement_155 rfl rfl (by decide) (c_X10_newLooker _ _ _ n _ ((hp56.2.1.1 0 1 (by omega)).trans ((hp52.2.1.1 0 1 (by omega)).trans ((hp47.2.1.1 0 1 (by omega)).trans (hn)))) (by omega)) (by decide) rfl rfl (Nat.le_of_ble_eq_true rfl) lm0 (fun x59 μ59 hp59 => ?_)
                      rw [hp59.1, hp59.2]
                      refine v_pop (pc := 158) F dX10_statement_158 rfl ?_
                      refine v_iconst (pc := 159) (v := nI 1) F dX10_statement_159 (by decide) ?_
                      refine v_ireturn (pc := 160) F dX10_statement_160 (rfl) ?_
                      simp only [stS, nb1, nb2, nb3, hnn, h6_2, h56_4, h89_6, h98_46, hz47, h112_51, hz52, h129_55, hz56, h146_58, ↓reduceIte]
                      exact ⟨rfl, (nl_0 (by decide)).trans (hp56.2.2.2), nl_F ((((Fm.rf).tr hp47.2.1).tr hp52.2.1).tr hp56.2.1)⟩
                    · rw [j_nm1 (by omega)] at h146_58
                      exact h146_58.elim
                · rw [j_nm1 (by omega)] at h129_55
                  exact h129_55.elim
            · rw [j_nm1 (by omega)] at h112_51
              exact h112_51.elim
        · rw [nI_eq (by omega) (by omega)] at h98_46
          refine v_iconst (pc := 101) (v := nI 0) F dX10_statement_101 (by decide) ?_
          refine v_ireturn (pc := 102) F dX10_statement_102 (rfl) ?_
          simp only [stS, nb1, nb2, nb3, hnn, h6_2, h56_4, h89_6, h98_46, ↓reduceIte]
          exact ⟨rfl, hf, Fm.rf⟩
    · rw [b2i_0] at h56_4
      rw [Classical.not_not] at h56_4
      refine v_aload_n (pc := 59) (i := 0) F dX10_statement_59 rfl rfl ?_
      refine v_iconst (pc := 60) (v := nI 0) F dX10_statement_60 (by decide) ?_
      refine v_bipush (pc := 61) (v := nI 11) F dX10_statement_61 (by decide) ?_
      refine v_callVI (pc := 63) (As := [_, _]) (rest := []) (c := 10) F mX10_number kX10_171 im_X10_number se_X10_number dX10_statement_63 rfl rfl (by decide) (c_X10_number _ 12 (fun v => j_wi rfl (by decide)) (by decide) tp t e _ (h9) (ht) ht2 (he) (het)) (by decide) rfl rfl (Nat.le_of_ble_eq_true rfl) lm0 (fun x60 μ60 hp60 => ?_)
      rw [hp60.1]
      rcases hz60 : nbr tp t e 12 with _ | z60
      · skip
        refine v_topE (y := -1) rfl ?_
        refine v_istore_n (pc := 66) (lo' := [some (.ref _), some (.int _), _, _]) F dX10_statement_66 rfl rfl (Nat.le_of_ble_eq_true rfl) rfl ?_
        refine v_iload_n (pc := 67) (i := 1) F dX10_statement_67 rfl rfl ?_
        refine v_iconst (pc := 68) (v := (-1)) F dX10_statement_68 (by decide) ?_
        refine v_icmp_ne (pc := 69) (tgt := 74) F dX10_statement_69 (by decide) (fun h69_61 => ?_) (fun h69_61 => ?_)
        · skip
          exact absurd rfl h69_61
        · skip
          refine v_iconst (pc := 72) (v := nI 0) F dX10_statement_72 (by decide) ?_
          refine v_ireturn (pc := 73) F dX10_statement_73 (rfl) ?_
          simp only [stS, nb1, nb2, nb3, hnn, h6_2, h56_4, hz60, h69_61, ↓reduceIte]
          exact ⟨rfl, hp60.2.2.1, (Fm.rf).tr hp60.2.1⟩
      · skip
        have hb60 := nbr_lt (by decide) hz60
        refine v_topE (y := nI z60) rfl ?_
        refine v_istore_n (pc := 66) (lo' := [some (.ref _), some (.int _), _, _]) F dX10_statement_66 rfl rfl (Nat.le_of_ble_eq_true rfl) rfl ?_
        refine v_iload_n (pc := 67) (i := 1) F dX10_statement_67 rfl rfl ?_
        refine v_iconst (pc := 68) (v := (-1)) F dX10_statement_68 (by decide) ?_
        refine v_icmp_ne (pc := 69) (tgt := 74) F dX10_statement_69 (by decide) (fun h69_62 => ?_) (fun h69_62 => ?_)
        · rw [j_nm1 (by omega)] at h69_62
          refine v_aload_n (pc := 74) (i := 0) F dX10_statement_74 rfl rfl ?_
          refine v_getR (pc := 75) (o := 1) F fX10_9 dX10_statement_75 rfl lm0 ?_
          refine v_topR (y := 1) rfl ?_
          refine v_iload_n (pc := 78) (i := 1) F dX10_statement_78 rfl rfl ?_
          refine v_iconst (pc := 79) (v := (-1)) F dX10_statement_79 (by decide) ?_
          refine v_iastN (pc := 80) (k0 := z60) F dX10_statement_80 (lm10_0 lm0) (rfl) (by omega) (by decide) ?_
          refine v_iconst (pc := 81) (v := nI 1) F dX10_statement_81 (by decide) ?_
          refine v_ireturn (pc := 82) F dX10_statement_82 (rfl) ?_
          simp only [stS, nb1, nb2, nb3, hnn, h6_2, h56_4, hz60, h69_62, ↓reduceIte]
          refine ⟨rfl, (j_pI_off (by omega)).trans (hp60.2.2.2), ?_⟩
          exact ((Fm.rf).tr hp60.2.1).both
        · rw [j_nm1 (by omega)] at h69_62
          exact h69_62.elim
  · rw [b2i_0] at h6_2
    rw [Classical.not_not] at h6_2
    refine v_aload_n (pc := 9) (i := 0) F dX10_statement_9 rfl rfl ?_
    refine v_iconst (pc := 10) (v := nI 0) F dX10_statement_10 (by decide) ?_
    refine v_bipush (pc := 11) (v := nI 11) F dX10_statement_11 (by decide) ?_
    refine v_callVI (pc := 13) (As := [_, _]) (rest := []) (c := 10) F mX10_number kX10_171 im_X10_number se_X10_number dX10_statement_13 rfl rfl (by decide) (c_X10_number _ 12 (fun v => j_wi rfl (by decide)) (by decide) tp t e _ (h9) (ht) ht2 (he) (het)) (by decide) rfl rfl (Nat.le_of_ble_eq_true rfl) lm0 (fun x63 μ63 hp63 => ?_)
    rw [hp63.1]
    rcases hz63 : nbr tp t e 12 with _ | z63
    · skip
      refine v_topE (y := -1) rfl ?_
      refine v_istore_n (pc := 16) (lo' := [some (.ref _), some (.int _), _, _]) F dX10_statement_16 rfl rfl (Nat.le_of_ble_eq_true rfl) rfl ?_
      refine v_iload_n (pc := 17) (i := 1) F dX10_statement_17 rfl rfl ?_
      refine v_iconst (pc := 18) (v := (-1)) F dX10_statement_18 (by decide) ?_
      refine v_icmp_ne (pc := 19) (tgt := 26) F dX10_statement_19 (by decide) (fun h19_64 => ?_) (fun h19_64 => ?_)
      · skip
        exact absurd rfl h19_64
      · skip
        refine v_iconst (pc := 22) (v := (-1)) F dX10_statement_22 (by decide) ?_
        refine v_goto (pc := 23) (tgt := 33) F dX10_statement_23 (by decide) ?_
        refine v_istore_n (pc := 33) (lo' := [some (.ref _), some (.int _), some (.int _), _]) F dX10_statement_33 rfl rfl (Nat.le_of_ble_eq_true rfl) rfl ?_
        refine v_iload_n (pc := 34) (i := 2) F dX10_statement_34 rfl rfl ?_
        refine v_iconst (pc := 35) (v := (-1)) F dX10_statement_35 (by decide) ?_
        refine v_icmp_ne (pc := 36) (tgt := 41) F dX10_statement_36 (by decide) (fun h36_65 => ?_) (fun h36_65 => ?_)
        · skip
          exact absurd rfl h36_65
        · skip
          refine v_iconst (pc := 39) (v := nI 0) F dX10_statement_39 (by decide) ?_
          refine v_ireturn (pc := 40) F dX10_statement_40 (rfl) ?_
          simp only [stS, nb1, nb2, nb3, hnn, h6_2, hz63, h19_64, h36_65, ↓reduceIte]
          exact ⟨rfl, hp63.2.2.1, (Fm.rf).tr hp63.2.1⟩
    · skip
      have hb63 := nbr_lt (by decide) hz63
      refine v_topE (y := nI z63) rfl ?_
      refine v_istore_n (pc := 16) (lo' := [some (.ref _), some (.int _), _, _]) F dX10_statement_16 rfl rfl (Nat.le_of_ble_eq_true rfl) rfl ?_
      refine v_iload_n (pc := 17) (i := 1) F dX10_statement_17 rfl rfl ?_
      refine v_iconst (pc := 18) (v := (-1)) F dX10_statement_18 (by decide) ?_
      refine v_icmp_ne (pc := 19) (tgt := 26) F dX10_statement_19 (by decide) (fun h19_66 => ?_) (fun h19_66 => ?_)
      · rw [j_nm1 (by omega)] at h19_66
        refine v_aload_n (pc := 26) (i := 0) F dX10_statement_26 rfl rfl ?_
        refine v_iconst (pc := 27) (v := nI 0) F dX10_statement_27 (by decide) ?_
        refine v_bipush (pc := 28) (v := nI 7) F dX10_statement_28 (by decide) ?_
        refine v_callVI (pc := 30) (As := [_, _]) (rest := []) (c := 10) F mX10_number kX10_171 im_X10_number se_X10_number dX10_statement_30 rfl rfl (by decide) (c_X10_number _ 8 (fun v => j_wi rfl (by decide)) (by decide) tp t (tkT tp t e) _ ((PT_9 hp63.2.1).trans (h9)) ((hp63.2.1.1 0 11 (by omega)).trans (ht)) ht2 (hp63.2.2.2) ((tkT_le (het)).2)) (by decide) rfl rfl (Nat.le_of_ble_eq_true rfl) lm0 (fun x67 μ67 hp67 => ?_)
        rw [hp67.1]
        rcases hz67 : nbr tp t (tkT tp t e) 8 with _ | z67
        · skip
          refine v_topE (y := -1) rfl ?_
          refine v_istore_n (pc := 33) (lo' := [some (.ref _), some (.int _), some (.int _), _]) F dX10_statement_33 rfl rfl (Nat.le_of_ble_eq_true rfl) rfl ?_
          refine v_iload_n (pc := 34) (i := 2) F dX10_statement_34 rfl rfl ?_
          refine v_iconst (pc := 35) (v := (-1)) F dX10_statement_35 (by decide) ?_
          refine v_icmp_ne (pc := 36) (tgt := 41) F dX10_statement_36 (by decide) (fun h36_68 => ?_) (fun h36_68 => ?_)
          · skip
            exact absurd rfl h36_68
          · skip
            refine v_iconst (pc := 39) (v := nI 0) F dX10_statement_39 (by decide) ?_
            refine v_ireturn (pc := 40) F dX10_statement_40 (rfl) ?_
            simp only [stS, nb1, nb2, nb3, hnn, h6_2, hz63, h19_66, hz67, h36_68, ↓reduceIte]
            exact ⟨rfl, hp67.2.2.1, ((Fm.rf).tr hp63.2.1).tr hp67.2.1⟩
        · skip
          have hb67 := nbr_lt (by decide) hz67
          refine v_topE (y := nI z67) rfl ?_
          refine v_istore_n (pc := 33) (lo' := [some (.ref _), some (.int _), some (.int _), _]) F dX10_statement_33 rfl rfl (Nat.le_of_ble_eq_true rfl) rfl ?_
          refine v_iload_n (pc := 34) (i := 2) F dX10_statement_34 rfl rfl ?_
          refine v_iconst (pc := 35) (v := (-1)) F dX10_statement_35 (by decide) ?_
          refine v_icmp_ne (pc := 36) (tgt := 41) F dX10_statement_36 (by decide) (fun h36_69 => ?_) (fun h36_69 => ?_)
          · rw [j_nm1 (by omega)] at h36_69
            refine v_aload_n (pc := 41) (i := 0) F dX10_statement_41 rfl rfl ?_
            refine v_getR (pc := 42) (o := 1) F fX10_9 dX10_statement_42 rfl lm0 ?_
            refine v_topR (y := 1) rfl ?_
            refine v_iload_n (pc := 45) (i := 1) F dX10_statement_45 rfl rfl ?_
            refine v_iload_n (pc := 46) (i := 2) F dX10_statement_46 rfl rfl ?_
            refine v_iastN (pc := 47) (k0 := z63) F dX10_statement_47 (lm10_0 lm0) (rfl) (by omega) (by decide) ?_
            refine v_iconst (pc := 48) (v := nI 1) F dX10_statement_48 (by decide) ?_
            refine v_ireturn (pc := 49) F dX10_statement_49 (rfl) ?_
            simp only [stS, nb1, nb2, nb3, hnn, h6_2, hz63, h19_66, hz67, h36_69, ↓reduceIte]
            refine ⟨rfl, (j_pI_off (by omega)).trans (hp67.2.2.2), ?_⟩
            exact (((Fm.rf).tr hp63.2.1).tr hp67.2.1).both
          · rw [j_nm1 (by omega)] at h36_69
            exact h36_69.elim
      · rw [j_nm1 (by omega)] at h19_66
        exact h19_66.elim
