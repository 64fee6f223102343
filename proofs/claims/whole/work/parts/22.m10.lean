/-! the reference's judge -/
theorem lc_lt {x y : Int64} : (lg_cmp x y < 0) = (x < y) := propext (lg_cmp_lt x y)
theorem lc_le {x y : Int64} : (lg_cmp x y ≤ 0) = (x ≤ y) := propext (lg_cmp_le x y)
theorem lc_ge {x y : Int64} : (0 ≤ lg_cmp x y) = (y ≤ x) := propext (lg_cmp_ge x y)
theorem lc_gt {x y : Int64} : (0 < lg_cmp x y) = (y < x) := propext (lg_cmp_gt x y)
theorem lc_eq {x y : Int64} : (lg_cmp x y = 0) = (x = y) := propext (lg_cmp_eq x y)
/-- the set that the looks of a shelf tell of -/
def wsK (t : Nat → Int64) (n : Nat) : Nat → Int32
  | 0 => 0
  | i + 1 => if 0 ≤ t (2 * i) ∧ t (2 * i) < (nI n).toInt64 then wsK t n i ||| ((1 : Int32) <<< ((t (2 * i)).toInt32 &&& 31)) else wsK t n i
theorem wsK_1 {t : Nat → Int64} {n i : Nat} (h : ¬ t (2 * i) < 0) (h2 : ¬ (nI n).toInt64 ≤ t (2 * i)) : wsK t n (i + 1) = wsK t n i ||| ((1 : Int32) <<< ((t (2 * i)).toInt32 &&& 31)) := if_pos ⟨Int64.not_lt.mp h, Int64.not_le.mp h2⟩
theorem wsK_2 {t : Nat → Int64} {n i : Nat} (h : t (2 * i) < 0) : wsK t n (i + 1) = wsK t n i := if_neg (fun z => absurd h (Int64.not_lt.mpr z.1))
theorem wsK_3 {t : Nat → Int64} {n i : Nat} (h2 : (nI n).toInt64 ≤ t (2 * i)) : wsK t n (i + 1) = wsK t n i := if_neg (fun z => absurd z.2 (Int64.not_lt.mpr h2))
/-- look i is not told as it would be -/
def wrP (w : Nat → Nat → Int32) (n : Nat) (t : Nat → Int64) (S : Int32) (i : Nat) : Bool := !(decide (i < (OO w n S).length) && t (2 * i) == (nI ((OO w n S).getD i 0)).toInt64 && t (2 * i + 1) == (o2i (tE w n S ((OO w n S).getD i 0)).head?).toInt64)
theorem goT_pre {w : Nat → Nat → Int32} {A B : List Nat} {u : Nat → Int32} {x : Nat} (h : x ∉ B) : goT w (A ++ B) u x = goT w A u x := by
  induction A generalizing u with
  | nil => exact goT_nil h
  | cons a A ih =>
    show (if x = a then _ else goT w (A ++ B) _ x) = if x = a then _ else goT w A _ x
    rw [ih]
theorem goT_take {w : Nat → Nat → Int32} {O : List Nat} {u : Nat → Int32} {k : Nat} (hn : O.Nodup) (hk : k < O.length) : goT w (O.take (k + 1)) u (O.getD k 0) = goT w O u (O.getD k 0) := by
  have h2 : (O.take (k + 1) ++ O.drop (k + 1)).Nodup := by rw [List.take_append_drop]; exact hn
  have hm : O.getD k 0 ∈ O.take (k + 1) := by rw [take_snoc hk]; simp
  have h3 : O.getD k 0 ∉ O.drop (k + 1) := fun z => (List.nodup_append.mp h2).2.2 _ hm _ z rfl
  have e := goT_pre (w := w) (u := u) (A := O.take (k + 1)) h3
  rw [List.take_append_drop] at e
  exact e.symm
theorem wr_ge {w : Nat → Nat → Int32} {n : Nat} {t : Nat → Int64} {S : Int32} {i : Nat} (h : (OO w n S).length ≤ i) : wrP w n t S i = true := by
  unfold wrP; rw [show decide (i < (OO w n S).length) = false from decide_eq_false (by omega)]; rfl
theorem wr_n1 {w : Nat → Nat → Int32} {n : Nat} {t : Nat → Int64} {S : Int32} {i : Nat} (h : ¬ t (2 * i) = (nI ((OO w n S).getD i 0)).toInt64) : wrP w n t S i = true := by
  unfold wrP; rw [show (t (2 * i) == (nI ((OO w n S).getD i 0)).toInt64) = false from beq_eq_false_iff_ne.mpr h, Bool.and_false]; rfl
theorem wr_n2 {w : Nat → Nat → Int32} {n : Nat} {t : Nat → Int64} {S : Int32} {i : Nat} (h : ¬ t (2 * i + 1) = (o2i (tE w n S ((OO w n S).getD i 0)).head?).toInt64) : wrP w n t S i = true := by
  unfold wrP; rw [show (t (2 * i + 1) == (o2i (tE w n S ((OO w n S).getD i 0)).head?).toInt64) = false from beq_eq_false_iff_ne.mpr h, Bool.and_false]; rfl
theorem wr_ok {w : Nat → Nat → Int32} {n : Nat} {t : Nat → Int64} {S : Int32} {i : Nat} (h0 : i < (OO w n S).length) (h : t (2 * i) = (nI ((OO w n S).getD i 0)).toInt64) (h2 : t (2 * i + 1) = (o2i (tE w n S ((OO w n S).getD i 0)).head?).toInt64) : wrP w n t S i = false := by
  unfold wrP; rw [← h, ← h2, decide_eq_true h0]; simp
abbrev rwT (μ : j_M) (s : Nat) (j : Nat) : Int64 := μ.2 12 (40 * s + j)
def s_judge (s n : Int32) (μ : j_M) : Int32 × j_M := if inQ 8 s = true then (if inQ 21 n = true then (if inQ 5 (μ.1 10 (ix s)) = true then (if ix (μ.1 11 (ix s)) < 2 * ix n then rj (-2) 2 μ else (o2i (fN (wrP μ.1 (nn μ) (rwT μ (ix s)) (wsK (rwT μ (ix s)) (nn μ) (ix n))) (ix n)), μ)) else if μ.1 10 (ix s) = -1 then rj (-4) 4 μ else rj (-3) 3 μ) else rj (-2) 2 μ) else rj (-2) 2 μ

set_option maxRecDepth 100000 in
theorem c_X10_wrong (s N n : Nat) (hs : s < 8) (hN : N < 21) (hn8 : n ≤ 8) (μ : j_M) (hn : μ.1 0 1 = nI n) (ho : ∀ l, l < n → ¬ μ.1 3 l = -1) : Ct yX10_wrong cX10_wrong 5 (some .int) 4 ΛM [.ref 0, .int (nI s), .int (nI N)] μ (pI fun r μ2 => r = o2i (fN (wrP μ.1 n (rwT μ s) (wsK (rwT μ s) n N)) N) ∧ Fm PB μ μ2) := by
  refine Ct.go (lo := [some (.ref 0), some (.int (nI s)), some (.int (nI N)), none, none]) (by decide) (Nat.le_of_ble_eq_true rfl) rfl rfl (fun X F => ?_)
  have F : Fx X cX10_wrong RX10 4 (some .int) ΛM := F
  refine v_iconst (pc := 0) (v := nI 0) F dX10_wrong_0 (by decide) ?_
  refine v_istore_n (pc := 1) (lo' := [some (.ref _), some (.int _), some (.int _), some (.int _), _]) F dX10_wrong_1 rfl rfl (Nat.le_of_ble_eq_true rfl) rfl ?_
  refine v_iconst (pc := 2) (v := nI 0) F dX10_wrong_2 (by decide) ?_
  refine v_istore (pc := 3) (lo' := [some (.ref _), some (.int _), some (.int _), some (.int _), some (.int _)]) F dX10_wrong_3 rfl (Nat.le_of_ble_eq_true rfl) rfl ?_
  refine j_up N (fun k => V X _ 5 [some (.ref 0), some (.int (nI s)), some (.int (nI N)), some (.int ((wsK (rwT μ s) n k))), some (.int (nI k))] [] μ) (fun k hk ih => ?_) 0 (Nat.zero_le _)
  refine v_iload (pc := 5) (i := 4) F dX10_wrong_5 rfl ?_
  refine v_iload_n (pc := 7) (i := 2) F dX10_wrong_7 rfl rfl ?_
  refine v_icmp_ge (pc := 8) (tgt := 64) F dX10_wrong_8 (by decide) (fun hg => ?_) (fun hg => ?_)
  · rw [nI_leI (by omega) (by omega)] at hg
    have eN : N = k := by omega
    subst eN
    refine v_aload_n (pc := 64) (i := 0) F dX10_wrong_64 rfl rfl ?_
    refine v_iload_n (pc := 65) (i := 3) F dX10_wrong_65 rfl rfl ?_
    refine v_callVV (pc := 66) (As := [_]) (rest := []) (c := 10) F mX10_begins kX10_225 im_X10_begins se_X10_begins dX10_wrong_66 rfl rfl (by decide) (c_X10_begins _ n μ.1 μ (RW.self hn) hn8) (by decide) rfl rfl (Nat.le_of_ble_eq_true rfl) lm0 (fun μ2 hp2 => ?_)
    obtain ⟨SS, hSS⟩ : ∃ SS, SS = (wsK (rwT μ s) n N) := ⟨_, rfl⟩
    have hq := hp2
    rw [← hSS] at hq
    rw [← hSS]
    obtain ⟨O, hO⟩ : ∃ O, O = OO μ.1 n SS := ⟨_, rfl⟩
    rw [show ordO (μ.1 4) (tb SS) n = O from hO.symm] at hq
    have hOl : O.length ≤ n := by rw [hO, ordO_len]; exact cK_le _ _
    have hOm : ∀ j, j < O.length → O.getD j 0 < n := fun j hj => (ordO_mem.mp (by rw [show ordO (μ.1 4) (tb SS) n = O from hO.symm]; exact getD_mem hj : O.getD j 0 ∈ ordO (μ.1 4) (tb SS) n)).1
    have hON : O.Nodup := by rw [hO]; exact ordO_nodup
    generalize μ2 = μ1 at hq ⊢
    refine v_iconst (pc := 69) (v := nI 0) F dX10_wrong_69 (by decide) ?_
    refine v_istore (pc := 70) (lo' := [some (.ref _), some (.int _), some (.int _), some (.int _), some (.int _)]) F dX10_wrong_70 rfl (Nat.le_of_ble_eq_true rfl) rfl ?_
    refine j_up N (fun k => ∀ μ' : j_M, (Fm PB μ μ' ∧ μ'.1 0 25 = nI O.length ∧ OR (μ'.1 17) O ∧ RP μ.1 (O.take k) μ' ∧ ∀ j, j < k → (wrP μ.1 n (rwT μ s) SS) j = false) → V X _ 72 [some (.ref 0), some (.int (nI s)), some (.int (nI N)), some (.int SS), some (.int (nI k))] [] μ') (fun k hk ih μ' hI => ?_) 0 (Nat.zero_le _) μ1 (⟨hq.1, hq.2.2.1, hq.2.2.2, hq.2.1, fun j hj => absurd hj (Nat.not_lt_zero _)⟩)
    refine v_iload (pc := 72) (i := 4) F dX10_wrong_72 rfl ?_
    refine v_iload_n (pc := 74) (i := 2) F dX10_wrong_74 rfl rfl ?_
    refine v_icmp_ge (pc := 75) (tgt := 159) F dX10_wrong_75 (by decide) (fun h75_3 => ?_) (fun h75_3 => ?_)
    · rw [nI_leI (by omega) (by omega)] at h75_3
      refine v_iconst (pc := 159) (v := (-1)) F dX10_wrong_159 (by decide) ?_
      refine v_ireturn (pc := 160) F dX10_wrong_160 (rfl) ?_
      refine ⟨?_, by first | exact hI.1 | exact m_tkL_F hI.1⟩
      rw [fN_none (P := (wrP μ.1 n (rwT μ s) SS)) (fun j hj => hI.2.2.2.2 j (by omega))]
      rfl
    · rw [nI_leI (by omega) (by omega)] at h75_3
      refine v_iload (pc := 78) (i := 4) F dX10_wrong_78 rfl ?_
      refine v_aload_n (pc := 80) (i := 0) F dX10_wrong_80 rfl rfl ?_
      refine v_getI (pc := 81) F fX10_219 dX10_wrong_81 rfl lm0 ?_
      refine v_topE (hI.2.1) ?_
      refine v_icmp_ge (pc := 84) (tgt := 108) F dX10_wrong_84 (by decide) (fun hl => ?_) (fun hl => ?_)
      · rw [nI_leI (by omega) (by omega)] at hl
        refine v_iload (pc := 108) (i := 4) F dX10_wrong_108 rfl ?_
        refine v_ireturn (pc := 110) F dX10_wrong_110 (rfl) ?_
        refine ⟨?_, by first | exact hI.1 | exact m_tkL_F hI.1⟩
        rw [fN_some (P := (wrP μ.1 n (rwT μ s) SS)) (k := k) (by omega) (by first | exact wr_ge (by rw [← hO]; exact hl) | exact wr_n1 (by rw [← hO]; exact hz1)) hI.2.2.2.2]
        rfl
      · rw [nI_leI (by omega) (by omega)] at hl
        refine v_aload_n (pc := 87) (i := 0) F dX10_wrong_87 rfl rfl ?_
        refine v_iload_n (pc := 88) (i := 1) F dX10_wrong_88 rfl rfl ?_
        refine v_iconst (pc := 89) (v := nI 2) F dX10_wrong_89 (by decide) ?_
        refine v_iload (pc := 90) (i := 4) F dX10_wrong_90 rfl ?_
        refine v_imul (pc := 92) F dX10_wrong_92 ?_
        refine v_topE (pk_mul _ _) ?_
        refine v_callVJ (pc := 93) (As := [_, _]) (rest := []) (c := 10) F mX10_toldAt kX10_293 im_X10_toldAt se_X10_toldAt dX10_wrong_93 rfl rfl (by decide) (c_X10_toldAt s (2 * k) (by omega) (by omega) _) (by decide) rfl rfl (Nat.le_of_ble_eq_true rfl) lm0 (fun x5 μ5 hp5 => ?_)
        rw [hp5.1, hp5.2]
        refine v_aload_n (pc := 96) (i := 0) F dX10_wrong_96 rfl rfl ?_
        refine v_getR (pc := 97) (o := 17) F fX10_59 dX10_wrong_97 rfl lm0 ?_
        refine v_topR (y := 17) rfl ?_
        refine v_iload (pc := 100) (i := 4) F dX10_wrong_100 rfl ?_
        refine v_ialdN (pc := 102) (k0 := k) F dX10_wrong_102 (lm10_26 lm0) (rfl) (by omega) (by decide) ?_
        refine v_topE (y := nI (O.getD k 0)) (hI.2.2.1 k (by omega)) ?_
        refine v_i2l (pc := 103) F dX10_wrong_103 ?_
        refine v_lcmp (pc := 104) F dX10_wrong_104 ?_
        refine v_if_eq (pc := 105) (tgt := 111) F dX10_wrong_105 (by decide) (fun hz1 => ?_) (fun hz1 => ?_)
        · rw [lc_eq, hI.1.2] at hz1
          refine v_aload_n (pc := 111) (i := 0) F dX10_wrong_111 rfl rfl ?_
          refine v_aload_n (pc := 112) (i := 0) F dX10_wrong_112 rfl rfl ?_
          refine v_getR (pc := 113) (o := 17) F fX10_59 dX10_wrong_113 rfl lm0 ?_
          refine v_topR (y := 17) rfl ?_
          refine v_iload (pc := 116) (i := 4) F dX10_wrong_116 rfl ?_
          refine v_ialdN (pc := 118) (k0 := k) F dX10_wrong_118 (lm10_26 lm0) (rfl) (by omega) (by decide) ?_
          refine v_topE (y := nI (O.getD k 0)) (hI.2.2.1 k (by omega)) ?_
          have hlk := hOm k (by omega)
          refine v_callVV (pc := 119) (As := [_]) (rest := []) (c := 10) F mX10_lookerGoes kX10_228 im_X10_lookerGoes se_X10_lookerGoes dX10_wrong_119 rfl rfl (by decide) (c_X10_lookerGoes (O.getD k 0) (by omega) _ (by rw [hI.1.1 3 _ (by omega)]; exact ho _ hlk)) (by decide) rfl rfl (Nat.le_of_ble_eq_true rfl) lm0 (fun μ7 hp7 => ?_)
          rw [hp7]
          have hk8 : O.getD k 0 < 8 := Nat.lt_of_lt_of_le (hOm k (by omega)) hn8
          have hstep := RP_step hI.2.2.2.1 ((RW.self hn).keep hI.1) (not_mem_take hON (by omega)) hk8
          rw [← take_snoc (by omega)] at hstep
          have hfst := (hstep.2 _ hk8).2
          rw [goT_take hON (by omega), show goT μ.1 O (μ.1 1) (O.getD k 0) = tE μ.1 n SS (O.getD k 0) from by rw [hO]; rfl] at hfst
          refine v_aload_n (pc := 122) (i := 0) F dX10_wrong_122 rfl rfl ?_
          refine v_iload_n (pc := 123) (i := 1) F dX10_wrong_123 rfl rfl ?_
          refine v_iconst (pc := 124) (v := nI 2) F dX10_wrong_124 (by decide) ?_
          refine v_iload (pc := 125) (i := 4) F dX10_wrong_125 rfl ?_
          refine v_imul (pc := 127) F dX10_wrong_127 ?_
          refine v_topE (pk_mul _ _) ?_
          refine v_iconst (pc := 128) (v := nI 1) F dX10_wrong_128 (by decide) ?_
          refine v_iadd (pc := 129) F dX10_wrong_129 ?_
          refine v_topE (nI_add _ _) ?_
          refine v_callVJ (pc := 130) (As := [_, _]) (rest := []) (c := 10) F mX10_toldAt kX10_293 im_X10_toldAt se_X10_toldAt dX10_wrong_130 rfl rfl (by decide) (c_X10_toldAt s (2 * k + 1) (by omega) (by omega) _) (by decide) rfl rfl (Nat.le_of_ble_eq_true rfl) lm0 (fun x8 μ8 hp8 => ?_)
          rw [hp8.1, hp8.2]
          refine v_aload_n (pc := 133) (i := 0) F dX10_wrong_133 rfl rfl ?_
          refine v_getR (pc := 134) (o := 19) F fX10_65 dX10_wrong_134 rfl lm0 ?_
          refine v_topR (y := 19) rfl ?_
          refine v_aload_n (pc := 137) (i := 0) F dX10_wrong_137 rfl rfl ?_
          refine v_getR (pc := 138) (o := 17) F fX10_59 dX10_wrong_138 rfl lm0 ?_
          refine v_topR (y := 17) rfl ?_
          refine v_iload (pc := 141) (i := 4) F dX10_wrong_141 rfl ?_
          refine v_ialdN (pc := 143) (k0 := k) F dX10_wrong_143 (lm10_26 lm0) (rfl) (by omega) (by decide) ?_
          refine v_topE (y := nI (O.getD k 0)) (by rw [m_tkL_c (by decide)]; exact hI.2.2.1 k (by omega)) ?_
          refine v_ialdN (pc := 144) (k0 := O.getD k 0) F dX10_wrong_144 (lm10_28 lm0) (rfl) (by omega) (by decide) ?_
          refine v_i2l (pc := 145) F dX10_wrong_145 ?_
          refine v_lcmp (pc := 146) F dX10_wrong_146 ?_
          refine v_if_eq (pc := 147) (tgt := 153) F dX10_wrong_147 (by decide) (fun hz2 => ?_) (fun hz2 => ?_)
          · rw [lc_eq, m_tkL_2, hI.1.2, hfst] at hz2
            refine v_iinc (pc := 153) (i := 4) (v := nI (k + 1)) (lo' := [some (.ref _), some (.int _), some (.int _), some (.int _), some (.int _)]) F dX10_wrong_153 rfl (j_inc _) rfl rfl ?_
            refine v_goto (pc := 156) (tgt := 72) F dX10_wrong_156 (by decide) ?_
            refine ih (by omega) _ ⟨m_tkL_F hI.1, ?_, fun j hj => ?_, ?_, fun j hj => ?_⟩
            · rw [m_tkL_c (by decide)]; exact hI.2.1
            · rw [m_tkL_c (by decide)]; exact hI.2.2.1 j hj
            · exact hstep
            · rcases Nat.lt_succ_iff_lt_or_eq.mp hj with q | q
              · exact hI.2.2.2.2 j q
              · rw [q]; exact wr_ok (by rw [← hO]; omega) (by rw [← hO]; exact hz1) (by rw [← hO]; exact hz2)
          · rw [lc_eq, m_tkL_2, hI.1.2, hfst] at hz2
            refine v_iload (pc := 150) (i := 4) F dX10_wrong_150 rfl ?_
            refine v_ireturn (pc := 152) F dX10_wrong_152 (rfl) ?_
            refine ⟨?_, by first | exact hI.1 | exact m_tkL_F hI.1⟩
            rw [fN_some (P := (wrP μ.1 n (rwT μ s) SS)) (k := k) (by omega) (wr_n2 (by rw [← hO]; exact hz2)) hI.2.2.2.2]
            rfl
        · rw [lc_eq, hI.1.2] at hz1
          refine v_iload (pc := 108) (i := 4) F dX10_wrong_108 rfl ?_
          refine v_ireturn (pc := 110) F dX10_wrong_110 (rfl) ?_
          refine ⟨?_, by first | exact hI.1 | exact m_tkL_F hI.1⟩
          rw [fN_some (P := (wrP μ.1 n (rwT μ s) SS)) (k := k) (by omega) (by first | exact wr_ge (by rw [← hO]; exact hl) | exact wr_n1 (by rw [← hO]; exact hz1)) hI.2.2.2.2]
          rfl
  · rw [nI_leI (by omega) (by omega)] at hg
    refine v_aload_n (pc := 11) (i := 0) F dX10_wrong_11 rfl rfl ?_
    refine v_iload_n (pc := 12) (i := 1) F dX10_wrong_12 rfl rfl ?_
    refine v_iconst (pc := 13) (v := nI 2) F dX10_wrong_13 (by decide) ?_
    refine v_iload (pc := 14) (i := 4) F dX10_wrong_14 rfl ?_
    refine v_imul (pc := 16) F dX10_wrong_16 ?_
    refine v_topE (pk_mul _ _) ?_
    refine v_callVJ (pc := 17) (As := [_, _]) (rest := []) (c := 10) F mX10_toldAt kX10_293 im_X10_toldAt se_X10_toldAt dX10_wrong_17 rfl rfl (by decide) (c_X10_toldAt s (2 * k) (by omega) (by omega) _) (by decide) rfl rfl (Nat.le_of_ble_eq_true rfl) lm0 (fun x10 μ10 hp10 => ?_)
    rw [hp10.1, hp10.2]
    refine v_lconst (pc := 20) (v := 0) F dX10_wrong_20 (by decide) ?_
    refine v_lcmp (pc := 21) F dX10_wrong_21 ?_
    refine v_if_lt (pc := 22) (tgt := 58) F dX10_wrong_22 (by decide) (fun h1 => ?_) (fun h1 => ?_)
    · rw [lc_lt] at h1
      refine v_iinc (pc := 58) (i := 4) (v := nI (k + 1)) (lo' := [some (.ref _), some (.int _), some (.int _), some (.int _), some (.int _)]) F dX10_wrong_58 rfl (j_inc _) rfl rfl ?_
      refine v_goto (pc := 61) (tgt := 5) F dX10_wrong_61 (by decide) ?_
      have q := ih (by omega)
      first | (rw [wsK_1 (t := rwT μ s) (i := k) h1 h2] at q; exact q) | (rw [wsK_2 (t := rwT μ s) (i := k) h1] at q; exact q) | (rw [wsK_3 (t := rwT μ s) (i := k) h2] at q; exact q)
    · rw [lc_lt] at h1
      refine v_aload_n (pc := 25) (i := 0) F dX10_wrong_25 rfl rfl ?_
      refine v_iload_n (pc := 26) (i := 1) F dX10_wrong_26 rfl rfl ?_
      refine v_iconst (pc := 27) (v := nI 2) F dX10_wrong_27 (by decide) ?_
      refine v_iload (pc := 28) (i := 4) F dX10_wrong_28 rfl ?_
      refine v_imul (pc := 30) F dX10_wrong_30 ?_
      refine v_topE (pk_mul _ _) ?_
      refine v_callVJ (pc := 31) (As := [_, _]) (rest := []) (c := 10) F mX10_toldAt kX10_293 im_X10_toldAt se_X10_toldAt dX10_wrong_31 rfl rfl (by decide) (c_X10_toldAt s (2 * k) (by omega) (by omega) _) (by decide) rfl rfl (Nat.le_of_ble_eq_true rfl) lm0 (fun x12 μ12 hp12 => ?_)
      rw [hp12.1, hp12.2]
      refine v_aload_n (pc := 34) (i := 0) F dX10_wrong_34 rfl rfl ?_
      refine v_getI (pc := 35) F fX10_89 dX10_wrong_35 rfl lm0 ?_
      refine v_topE (hn) ?_
      refine v_i2l (pc := 38) F dX10_wrong_38 ?_
      refine v_lcmp (pc := 39) F dX10_wrong_39 ?_
      refine v_if_ge (pc := 40) (tgt := 58) F dX10_wrong_40 (by decide) (fun h2 => ?_) (fun h2 => ?_)
      · rw [lc_ge] at h2
        refine v_iinc (pc := 58) (i := 4) (v := nI (k + 1)) (lo' := [some (.ref _), some (.int _), some (.int _), some (.int _), some (.int _)]) F dX10_wrong_58 rfl (j_inc _) rfl rfl ?_
        refine v_goto (pc := 61) (tgt := 5) F dX10_wrong_61 (by decide) ?_
        have q := ih (by omega)
        first | (rw [wsK_1 (t := rwT μ s) (i := k) h1 h2] at q; exact q) | (rw [wsK_2 (t := rwT μ s) (i := k) h1] at q; exact q) | (rw [wsK_3 (t := rwT μ s) (i := k) h2] at q; exact q)
      · rw [lc_ge] at h2
        refine v_iload_n (pc := 43) (i := 3) F dX10_wrong_43 rfl rfl ?_
        refine v_iconst (pc := 44) (v := nI 1) F dX10_wrong_44 (by decide) ?_
        refine v_aload_n (pc := 45) (i := 0) F dX10_wrong_45 rfl rfl ?_
        refine v_iload_n (pc := 46) (i := 1) F dX10_wrong_46 rfl rfl ?_
        refine v_iconst (pc := 47) (v := nI 2) F dX10_wrong_47 (by decide) ?_
        refine v_iload (pc := 48) (i := 4) F dX10_wrong_48 rfl ?_
        refine v_imul (pc := 50) F dX10_wrong_50 ?_
        refine v_topE (pk_mul _ _) ?_
        refine v_callVJ (pc := 51) (As := [_, _]) (rest := [_, _]) (c := 10) F mX10_toldAt kX10_293 im_X10_toldAt se_X10_toldAt dX10_wrong_51 rfl rfl (by decide) (c_X10_toldAt s (2 * k) (by omega) (by omega) _) (by decide) rfl rfl (Nat.le_of_ble_eq_true rfl) lm0 (fun x14 μ14 hp14 => ?_)
        rw [hp14.1, hp14.2]
        refine v_l2i (pc := 54) F dX10_wrong_54 ?_
        refine v_ishl (pc := 55) F dX10_wrong_55 ?_
        refine v_ior (pc := 56) F dX10_wrong_56 ?_
        refine v_istore_n (pc := 57) (lo' := [some (.ref _), some (.int _), some (.int _), some (.int _), some (.int _)]) F dX10_wrong_57 rfl rfl (Nat.le_of_ble_eq_true rfl) rfl ?_
        refine v_iinc (pc := 58) (i := 4) (v := nI (k + 1)) (lo' := [some (.ref _), some (.int _), some (.int _), some (.int _), some (.int _)]) F dX10_wrong_58 rfl (j_inc _) rfl rfl ?_
        refine v_goto (pc := 61) (tgt := 5) F dX10_wrong_61 (by decide) ?_
        have q := ih (by omega)
        first | (rw [wsK_1 (t := rwT μ s) (i := k) h1 h2] at q; exact q) | (rw [wsK_2 (t := rwT μ s) (i := k) h1] at q; exact q) | (rw [wsK_3 (t := rwT μ s) (i := k) h2] at q; exact q)

set_option maxRecDepth 100000 in
theorem c_X10_judge (s n_ : Int32) (μ : j_M) (hM : MI μ) : Ct yX10_judge cX10_judge 3 (some .int) 5 ΛM [.ref 0, .int s, .int n_] μ (pI fun r μ2 => r = (s_judge s n_ μ).1 ∧ Fm PS (s_judge s n_ μ).2 μ2) := by
  refine Ct.go (lo := [some (.ref 0), some (.int s), some (.int n_)]) (by decide) (Nat.le_of_ble_eq_true rfl) rfl rfl (fun X F => ?_)
  have F : Fx X cX10_judge RX10 5 (some .int) ΛM := F
  obtain ⟨n, hW, hsh, htp, him⟩ := id hM
  have hn := hW.1
  have hn8 := hW.2.1
  have hnn := nn_eq hn hn8
  have ho := hW.own
  have hrw : RW μ.1 n μ := RW.self hn
  have hpw := j_pw hn8
  refine v_iload_n (pc := 0) (i := 1) F dX10_judge_0 rfl rfl ?_
  refine v_callSI (pc := 1) (As := [_]) (rest := []) F mX10_isShelf kX10_92 sm_X10_isShelf dX10_judge_1 (c_X10_isShelf _ _) (by decide) rfl rfl (Nat.le_of_ble_eq_true rfl) (fun x1 μ1 hp1 => ?_)
  rw [hp1.1, hp1.2]
  refine v_if_eq (pc := 4) (tgt := 17) F dX10_judge_4 (by decide) (fun h4_2 => ?_) (fun h4_2 => ?_)
  · rw [b2i_0] at h4_2
    refine v_aload_n (pc := 17) (i := 0) F dX10_judge_17 rfl rfl ?_
    refine v_bipush (pc := 18) (v := (-2)) F dX10_judge_18 (by decide) ?_
    refine v_callVI (pc := 20) (As := [_]) (rest := []) (c := 10) F mX10_no kX10_96 im_X10_no se_X10_no dX10_judge_20 rfl rfl (by decide) (c_X10_no (-2) 2 (by decide) (by decide) _) (by decide) rfl rfl (Nat.le_of_ble_eq_true rfl) lm0 (fun x3 μ3 hp3 => ?_)
    rw [hp3.1, hp3.2]
    refine v_ireturn (pc := 23) F dX10_judge_23 (rfl) ?_
    simp only [s_judge, rj, hnn, h4_2, ↓reduceIte]
    refine ⟨?_, ?_⟩ <;> first | exact trivial | exact rfl | exact Fm.rf
  · rw [b2i_0] at h4_2
    rw [Classical.not_not] at h4_2
    obtain ⟨k_s, hk_s, he_s⟩ := inR_of (by decide) h4_2
    subst he_s
    have ek_s : ix (nI k_s) = k_s := nI_clamp (by omega)
    refine v_iload_n (pc := 7) (i := 2) F dX10_judge_7 rfl rfl ?_
    refine v_iconst (pc := 8) (v := nI 0) F dX10_judge_8 (by decide) ?_
    refine v_bipush (pc := 9) (v := nI 20) F dX10_judge_9 (by decide) ?_
    refine v_callSI (pc := 11) (As := [_, _, _]) (rest := []) F mX10_within kX10_85 sm_X10_within dX10_judge_11 (c_X10_withinR _ 20 21 rfl (by decide) _) (by decide) rfl rfl (Nat.le_of_ble_eq_true rfl) (fun x4 μ4 hp4 => ?_)
    rw [hp4.1, hp4.2]
    refine v_if_ne (pc := 14) (tgt := 24) F dX10_judge_14 (by decide) (fun h14_5 => ?_) (fun h14_5 => ?_)
    · rw [b2i_0] at h14_5
      rw [Classical.not_not] at h14_5
      obtain ⟨k_n_, hk_n_, he_n_⟩ := inR_of (by decide) h14_5
      subst he_n_
      have ek_n_ : ix (nI k_n_) = k_n_ := nI_clamp (by omega)
      refine v_aload_n (pc := 24) (i := 0) F dX10_judge_24 rfl rfl ?_
      refine v_iload_n (pc := 25) (i := 1) F dX10_judge_25 rfl rfl ?_
      refine v_callVI (pc := 26) (As := [_]) (rest := []) (c := 10) F mX10_isRow kX10_100 im_X10_isRow se_X10_isRow dX10_judge_26 rfl rfl (by decide) (c_X10_isRow k_s (by omega) _) (by decide) rfl rfl (Nat.le_of_ble_eq_true rfl) lm0 (fun x6 μ6 hp6 => ?_)
      rw [hp6.1, hp6.2]
      refine v_if_ne (pc := 29) (tgt := 42) F dX10_judge_29 (by decide) (fun hro => ?_) (fun hro => ?_)
      · rw [b2i_0] at hro
        rw [Classical.not_not] at hro
        obtain ⟨⟨j5, hj5, hhj⟩, m, hm, hlm⟩ := SH_row (hsh k_s (by omega)) hn8 hro
        have ekm : ix (μ.1 11 k_s) = m := by rw [hlm]; exact ix_nI (by omega)
        refine v_iconst (pc := 42) (v := nI 2) F dX10_judge_42 (by decide) ?_
        refine v_iload_n (pc := 43) (i := 2) F dX10_judge_43 rfl rfl ?_
        refine v_imul (pc := 44) F dX10_judge_44 ?_
        refine v_topE (pk_mul _ _) ?_
        refine v_aload_n (pc := 45) (i := 0) F dX10_judge_45 rfl rfl ?_
        refine v_getR (pc := 46) (o := 11) F fX10_40 dX10_judge_46 rfl lm0 ?_
        refine v_topR (y := 11) rfl ?_
        refine v_iload_n (pc := 49) (i := 1) F dX10_judge_49 rfl rfl ?_
        refine v_ialdN (pc := 50) (k0 := k_s) F dX10_judge_50 (lm10_18 lm0) (rfl) (by omega) (by decide) ?_
        refine v_topE (y := nI m) (hlm) ?_
        refine v_icmp_le (pc := 51) (tgt := 63) F dX10_judge_51 (by decide) (fun hle => ?_) (fun hle => ?_)
        · rw [nI_leI (by omega) (by omega)] at hle
          refine v_aload_n (pc := 63) (i := 0) F dX10_judge_63 rfl rfl ?_
          refine v_iload_n (pc := 64) (i := 1) F dX10_judge_64 rfl rfl ?_
          refine v_iload_n (pc := 65) (i := 2) F dX10_judge_65 rfl rfl ?_
          refine v_callVI (pc := 66) (As := [_, _]) (rest := []) (c := 10) F mX10_wrong kX10_296 im_X10_wrong se_X10_wrong dX10_judge_66 rfl rfl (by decide) (c_X10_wrong k_s k_n_ n (by omega) (by omega) hn8 _ hn ho) (by decide) rfl rfl (Nat.le_of_ble_eq_true rfl) lm0 (fun x9 μ9 hp9 => ?_)
          rw [hp9.1]
          have hq := hp9.2
          refine v_ireturn (pc := 69) F dX10_judge_69 (rfl) ?_
          simp only [s_judge, rj, hnn, h4_2, ek_s, h14_5, ek_n_, hro, ekm, hle, ↓reduceIte]
          first | (rw [if_pos (by omega)]; refine ⟨?_, ?_⟩ <;> first | exact trivial | exact rfl | exact Fm.rf) | (rw [if_neg (by omega)]; exact ⟨rfl, PB_PS hq⟩)
        · rw [nI_leI (by omega) (by omega)] at hle
          refine v_aload_n (pc := 54) (i := 0) F dX10_judge_54 rfl rfl ?_
          refine v_bipush (pc := 55) (v := (-2)) F dX10_judge_55 (by decide) ?_
          refine v_callVI (pc := 57) (As := [_]) (rest := []) (c := 10) F mX10_no kX10_96 im_X10_no se_X10_no dX10_judge_57 rfl rfl (by decide) (c_X10_no (-2) 2 (by decide) (by decide) _) (by decide) rfl rfl (Nat.le_of_ble_eq_true rfl) lm0 (fun x10 μ10 hp10 => ?_)
          rw [hp10.1, hp10.2]
          refine v_goto (pc := 60) (tgt := 69) F dX10_judge_60 (by decide) ?_
          refine v_ireturn (pc := 69) F dX10_judge_69 (rfl) ?_
          simp only [s_judge, rj, hnn, h4_2, ek_s, h14_5, ek_n_, hro, ekm, hle, ↓reduceIte]
          first | (rw [if_pos (by omega)]; refine ⟨?_, ?_⟩ <;> first | exact trivial | exact rfl | exact Fm.rf) | (rw [if_neg (by omega)]; exact ⟨rfl, PB_PS hq⟩)
      · rw [b2i_0] at hro
        have hq := SH_no (hsh k_s (by omega)) hro
        refine v_aload_n (pc := 32) (i := 0) F dX10_judge_32 rfl rfl ?_
        refine v_aload_n (pc := 33) (i := 0) F dX10_judge_33 rfl rfl ?_
        refine v_iload_n (pc := 34) (i := 1) F dX10_judge_34 rfl rfl ?_
        refine v_callVI (pc := 35) (As := [_]) (rest := [_]) (c := 10) F mX10_noRow kX10_103 im_X10_noRow se_X10_noRow dX10_judge_35 rfl rfl (by decide) (c_X10_noRow k_s (by omega) _) (by decide) rfl rfl (Nat.le_of_ble_eq_true rfl) lm0 (fun x11 μ11 hp11 => ?_)
        rw [hp11.1, hp11.2]
        rcases hq with hq | ⟨l9, hl9, hq⟩
        · skip
          refine v_topE (y := -4) (by rw [hq]; rfl) ?_
          refine v_callVI (pc := 38) (As := [_]) (rest := []) (c := 10) F mX10_no kX10_96 im_X10_no se_X10_no dX10_judge_38 rfl rfl (by decide) (c_X10_no (-4) 4 (by decide) (by decide) _) (by decide) rfl rfl (Nat.le_of_ble_eq_true rfl) lm0 (fun x12 μ12 hp12 => ?_)
          rw [hp12.1, hp12.2]
          refine v_ireturn (pc := 41) F dX10_judge_41 (rfl) ?_
          simp only [s_judge, rj, hnn, h4_2, ek_s, h14_5, ek_n_, hro, hro, ↓reduceIte]
          refine ⟨?_, ?_⟩ <;> first | exact trivial | (simp only [hq, ↓reduceIte]; first | exact trivial | exact rfl | exact Fm.rf) | (simp only [hq2, ↓reduceIte]; first | exact trivial | exact rfl | exact Fm.rf)
        · skip
          refine v_topE (y := -3) (by rw [hq, if_pos ((nI_leI (by omega) (by omega)).mpr (by omega))]) ?_
          have hq2 : ¬ μ.1 10 k_s = -1 := by rw [hq]; exact j_m1 (by omega)
          refine v_callVI (pc := 38) (As := [_]) (rest := []) (c := 10) F mX10_no kX10_96 im_X10_no se_X10_no dX10_judge_38 rfl rfl (by decide) (c_X10_no (-3) 3 (by decide) (by decide) _) (by decide) rfl rfl (Nat.le_of_ble_eq_true rfl) lm0 (fun x13 μ13 hp13 => ?_)
          rw [hp13.1, hp13.2]
          refine v_ireturn (pc := 41) F dX10_judge_41 (rfl) ?_
          simp only [s_judge, rj, hnn, h4_2, ek_s, h14_5, ek_n_, hro, hro, ↓reduceIte]
          refine ⟨?_, ?_⟩ <;> first | exact trivial | (simp only [hq, ↓reduceIte]; first | exact trivial | exact rfl | exact Fm.rf) | (simp only [hq2, ↓reduceIte]; first | exact trivial | exact rfl | exact Fm.rf)
    · rw [b2i_0] at h14_5
      refine v_aload_n (pc := 17) (i := 0) F dX10_judge_17 rfl rfl ?_
      refine v_bipush (pc := 18) (v := (-2)) F dX10_judge_18 (by decide) ?_
      refine v_callVI (pc := 20) (As := [_]) (rest := []) (c := 10) F mX10_no kX10_96 im_X10_no se_X10_no dX10_judge_20 rfl rfl (by decide) (c_X10_no (-2) 2 (by decide) (by decide) _) (by decide) rfl rfl (Nat.le_of_ble_eq_true rfl) lm0 (fun x14 μ14 hp14 => ?_)
      rw [hp14.1, hp14.2]
      refine v_ireturn (pc := 23) F dX10_judge_23 (rfl) ?_
      simp only [s_judge, rj, hnn, h4_2, ek_s, h14_5, ↓reduceIte]
      refine ⟨?_, ?_⟩ <;> first | exact trivial | exact rfl | exact Fm.rf
