/-! the class: the tape -/
theorem isD_d {c : Int32} (h : isD c = true) : ∃ d, d < 10 ∧ c = nI (48 + d) := by
  obtain ⟨k, h1, h2, rfl⟩ := inB_of (by decide) (by decide) h
  exact ⟨k - 48, by omega, by rw [show 48 + (k - 48) = k by omega]⟩
theorem isDL {c : Int32} (h : isD c = true) : ¬ isL c = true := by
  obtain ⟨d, hd, rfl⟩ := isD_d h
  have : ∀ d, d < 10 → ¬ isL (nI (48 + d)) = true := by decide
  exact this d hd
theorem isW_w {tp : Nat → Int32} {t a j : Nat} (hj : j < 6) : isW tp (tkF tp t a) (tkT tp t a) (tkK tp t a) j = wdB tp (tkF tp t a) (scan isL tp t (tkF tp t a)) j := by
  have hl : 0 < j_len.getD j 0 := by
    have : ∀ j, j < 6 → 0 < j_len.getD j 0 := by decide +kernel
    exact this j hj
  have h0 : ∀ f, wdB tp f f j = false := fun f => by
    unfold wdB
    rw [Nat.sub_self, decide_eq_false (by omega), Bool.false_and]
  have hk : ∀ {kd e}, kd ≠ nI 119 → isW tp (tkF tp t a) e kd j = false := fun h => by
    unfold isW
    rw [beq_eq_false_iff_ne.mpr h, Bool.false_and]
  by_cases h1 : tkF tp t a = t
  · rw [hk (by unfold tkK; rw [if_pos h1]; decide), scan_n (by omega), h0]
  · by_cases h2 : isL (tp (tkF tp t a)) = true
    · have e1 : tkK tp t a = nI 119 := by unfold tkK; rw [if_neg h1, if_pos h2]
      have e2 : tkT tp t a = scan isL tp t (tkF tp t a + 1) := by unfold tkT; rw [if_neg h1, if_pos h2]
      by_cases h3 : tkF tp t a < t
      · rw [e1, e2, ← scan_s h3 h2]
        show ((nI 119 == nI 119) && _) = _
        rw [beq_self_eq_true, Bool.true_and]
      · rw [e1, e2, scan_n (by omega), scan_n (by omega)]
        show ((nI 119 == nI 119) && wdB tp (tkF tp t a) (tkF tp t a + 1) j) = _
        have hl5 : 1 < j_len.getD j 0 := by
          have : ∀ j, j < 6 → 1 < j_len.getD j 0 := by decide +kernel
          exact this j hj
        rw [h0, beq_self_eq_true, Bool.true_and]
        unfold wdB
        rw [decide_eq_false (by omega), Bool.false_and]
    · rw [scan_f h2, h0]
      refine hk ?_
      unfold tkK
      rw [if_neg h1, if_neg h2]
      by_cases h3 : isD (tp (tkF tp t a)) = true
      · rw [if_pos h3]; split <;> decide
      · rw [if_neg h3]; split <;> decide
/-- what the first k digits from f on say; two are read -/
def cvl (tp : Nat → Int32) (f k : Nat) : Int32 := if k = 0 then 0 else if k = 1 then tp f - nI 48 else nI 10 * (tp f - nI 48) + tp (f + 1) - nI 48
theorem cvl_0 {tp : Nat → Int32} {f k : Nat} (h : k < 2) : nI 10 * cvl tp f k + tp (f + k) - nI 48 = cvl tp f (k + 1) := by
  rcases (show k = 0 ∨ k = 1 by omega) with rfl | rfl
  · show nI 10 * 0 + tp (f + 0) - nI 48 = tp f - nI 48
    rw [Int32.mul_zero, Int32.zero_add]; rfl
  · rfl
theorem cvl_2 {tp : Nat → Int32} {f k : Nat} (h : 2 ≤ k) : cvl tp f (k + 1) = cvl tp f k := by
  unfold cvl
  rw [if_neg (by omega), if_neg (by omega), if_neg (by omega), if_neg (by omega)]
theorem nb_cls {tp : Nat → Int32} {t a f k M : Nat} {hi : Int32} (hM : ∀ v, (nI 0 ≤ v ∧ v ≤ hi) = (inQ M v = true)) (hM31 : M < 2 ^ 31) (hf : tkF tp t a = f) (hft : f ≤ t) (hd : ∀ i, i < k → isD (tp (f + i)) = true) (hkt : f + k ≤ t) (hk : scan isD tp t f = f + k) : (k = 0 ∨ 2 < k → nbr tp t a M = none) ∧ (0 < k → k ≤ 2 → ¬ cvl tp f k ≤ hi → nbr tp t a M = none) ∧ (0 < k → k ≤ 2 → cvl tp f k ≤ hi → ∃ v, v < M ∧ cvl tp f k = nI v ∧ nbr tp t a M = some v ∧ tkT tp t a = f + k) := by
  have hT : 0 < k → tkT tp t a = f + k ∧ tkK tp t a = if 2 < k then nI 120 else nI 48 := fun h => by
    have h1 : ¬ tkF tp t a = t := by omega
    have h3 : isD (tp f) = true := by have := hd 0 h; exact this
    have h2 : ¬ isL (tp (tkF tp t a)) = true := by rw [hf]; exact isDL h3
    have e : tkT tp t a = f + k := by
      unfold tkT
      rw [if_neg h1, if_neg h2, hf, if_pos h3, ← scan_s (by omega) h3, hk]
    refine ⟨e, ?_⟩
    unfold tkK
    rw [if_neg h1, if_neg h2, e, hf, if_pos h3, show f + k - f = k by omega]
  have hV : 0 < k → k ≤ 2 → tkV tp t a = cvl tp f k := fun h h2 => by
    unfold tkV
    rw [(hT h).1, hf, show f + k - f = k by omega]
    rcases (show k = 1 ∨ k = 2 by omega) with rfl | rfl
    · rfl
    · rfl
  refine ⟨fun h => ?_, fun h h2 h3 => ?_, fun h h2 h3 => ?_⟩
  · unfold nbr
    rw [if_neg]
    rintro ⟨z, -⟩
    rcases h with rfl | h
    · unfold tkK at z
      by_cases h1 : tkF tp t a = t
      · rw [if_pos h1] at z; exact absurd z (by decide)
      · have h3 : ¬ isD (tp f) = true := fun y => by
          have q : scan isD tp t f = scan isD tp t (f + 1) := scan_s (by omega) y
          have q2 : f + 1 ≤ scan isD tp t (f + 1) := scan_ge
          omega
        rw [if_neg h1, hf, if_neg h3] at z
        by_cases h4 : isL (tp f) = true
        · rw [if_pos h4] at z; exact absurd z (by decide)
        · rw [if_neg h4] at z
          split at z <;> exact absurd z (by decide)
    · rw [(hT (by omega)).2, if_pos h] at z; exact absurd z (by decide)
  · unfold nbr
    rw [if_neg]
    rintro ⟨-, z⟩
    rw [hV h h2, ← hM] at z
    exact h3 z.2
  · obtain ⟨d1, hd1, e1⟩ := isD_d (hd 0 h)
    have h48 : ∀ d, d < 10 → nI (48 + d) - nI 48 = nI d := by decide
    have hv : ∃ v, v < 100 ∧ cvl tp f k = nI v := by
      rcases (show k = 1 ∨ k = 2 by omega) with rfl | rfl
      · refine ⟨d1, by omega, ?_⟩
        show tp (f + 0) - nI 48 = _
        rw [e1, h48 d1 hd1]
      · obtain ⟨d2, hd2, e2⟩ := isD_d (hd 1 (by omega))
        refine ⟨10 * d1 + d2, by omega, ?_⟩
        show nI 10 * (tp (f + 0) - nI 48) + tp (f + 1) - nI 48 = _
        rw [e1, h48 d1 hd1, e2, pk_mul, nI_add, pk_sub (by omega)]
        congr 1; omega
    obtain ⟨v, hv1, hv2⟩ := hv
    have hin : inQ M (cvl tp f k) = true := by
      rw [← hM]
      exact ⟨by rw [hv2]; exact nI_pos' (by omega), h3⟩
    have hvM : v < M := by
      obtain ⟨u, hu, e⟩ := inR_of (by omega) hin
      rw [hv2] at e
      have := (nI_eq (by omega) (by omega)).mp e
      omega
    refine ⟨v, hvM, hv2, ?_, (hT h).1⟩
    unfold nbr
    rw [if_pos ⟨by rw [(hT h).2, if_neg (by omega)], by rw [hV h h2]; exact hin⟩, hV h h2, hv2, ix_nI (by omega)]
abbrev PAT (x c j : Nat) : Prop := c = x ∧ j = 2
abbrev PTP (x c j : Nat) : Prop := c = x ∧ (j = 2 ∨ j = 3)

set_option maxRecDepth 100000 in
theorem c_X7_skipBlanks (x : Nat) (hx : j_ob ΛX x 7) (tp : Nat → Int32) (t a : Nat) (μ : j_M) (hb : ∀ j, j < t → μ.1 (x + 1) j = tp j) (ht : μ.1 x 1 = nI t) (ht2 : t ≤ 250) (ha : μ.1 x 2 = nI a) (hat : a ≤ t)  : Ct yX7_skipBlanks cX7_skipBlanks 1 none 0 ΛX [.ref x] μ (pV fun μ2 => Fm (PAT x) μ μ2 ∧ μ2.1 x 2 = nI (tkF tp t a)) := by
  refine Ct.go (lo := [some (.ref x)]) (by decide) (Nat.le_of_ble_eq_true rfl) rfl rfl (fun X F => ?_)
  have F : Fx X cX7_skipBlanks RX7 0 none ΛX := F
  refine j_up (t - a) (fun k => ∀ μ' : j_M, (Fm (PAT x) μ μ' ∧ μ'.1 x 2 = nI (a + k) ∧ scan isB tp t a = scan isB tp t (a + k)) → V X _ 0 [some (.ref x)] [] μ') (fun k hk ih μ' hI => ?_) 0 (Nat.zero_le _) μ (⟨Fm.rf, ha, rfl⟩)
  refine v_aload_n (pc := 0) (i := 0) F dX7_skipBlanks_0 rfl rfl ?_
  refine v_getI (pc := 1) F fX7_22 dX7_skipBlanks_1 rfl hx ?_
  refine v_topE (y := nI (a + k)) (hI.2.1) ?_
  refine v_aload_n (pc := 4) (i := 0) F dX7_skipBlanks_4 rfl rfl ?_
  refine v_getI (pc := 5) F fX7_19 dX7_skipBlanks_5 rfl hx ?_
  refine v_topE (y := nI t) ((hI.1.1 _ _ (by omega)).trans (ht)) ?_
  refine v_icmp_ge (pc := 8) (tgt := 38) F dX7_skipBlanks_8 (by decide) (fun h8 => ?_) (fun h8 => ?_)
  · rw [nI_leI (by omega) (by omega)] at h8
    refine v_return (pc := 38) F dX7_skipBlanks_38 ?_
    refine ⟨hI.1, hI.2.1.trans ?_⟩
    show nI (a + k) = nI (scan isB tp t a)
    rw [hI.2.2]
    rw [scan_n (by omega)]
  · rw [nI_leI (by omega) (by omega)] at h8
    refine v_aload_n (pc := 11) (i := 0) F dX7_skipBlanks_11 rfl rfl ?_
    refine v_getR (pc := 12) (o := 1) F fX7_9 dX7_skipBlanks_12 rfl hx ?_
    refine v_topR (y := x + 1) rfl ?_
    refine v_aload_n (pc := 15) (i := 0) F dX7_skipBlanks_15 rfl rfl ?_
    refine v_getI (pc := 16) F fX7_22 dX7_skipBlanks_16 rfl hx ?_
    refine v_topE (y := nI (a + k)) (hI.2.1) ?_
    refine v_ialdN (pc := 19) (k0 := a + k) F dX7_skipBlanks_19 (lx7_0 hx) (rfl) (by omega) (by decide) ?_
    refine v_topE (y := (tp (a + k))) ((hI.1.1 _ _ (by omega)).trans (hb (a + k) (by omega))) ?_
    refine v_bipush (pc := 20) (v := nI 32) F dX7_skipBlanks_20 (by decide) ?_
    refine v_icmp_ne (pc := 22) (tgt := 38) F dX7_skipBlanks_22 (by decide) (fun hbl => ?_) (fun hbl => ?_)
    · skip
      refine v_return (pc := 38) F dX7_skipBlanks_38 ?_
      refine ⟨hI.1, hI.2.1.trans ?_⟩
      show nI (a + k) = nI (scan isB tp t a)
      rw [hI.2.2]
      rw [scan_f (fun z => hbl ?_)]
      exact beq_iff_eq.mp z
    · skip
      refine v_aload_n (pc := 25) (i := 0) F dX7_skipBlanks_25 rfl rfl ?_
      refine v_dup (pc := 26) F dX7_skipBlanks_26 rfl ?_
      refine v_getI (pc := 27) F fX7_22 dX7_skipBlanks_27 rfl hx ?_
      refine v_topE (y := nI (a + k)) (hI.2.1) ?_
      refine v_iconst (pc := 30) (v := nI 1) F dX7_skipBlanks_30 (by decide) ?_
      refine v_iadd (pc := 31) F dX7_skipBlanks_31 ?_
      refine v_topE (nI_add _ _) ?_
      refine v_put (pc := 32) F fX7_22 dX7_skipBlanks_32 rfl rfl rfl hx ?_
      refine v_goto (pc := 35) (tgt := 0) F dX7_skipBlanks_35 (by decide) ?_
      have hpb : isB (tp (a + k)) = true := by rw [show isB (tp (a + k)) = (tp (a + k) == nI 32) from rfl, beq_iff_eq]; exact hbl
      exact ih (by omega) _ ⟨hI.1.pI ⟨rfl, rfl⟩, j_pI_at, hI.2.2.trans (scan_s (by omega) hpb)⟩

set_option maxRecDepth 100000 in
theorem c_X7_isDigit (x : Int32) (μ : j_M) : Ct yX7_isDigit cX7_isDigit 1 (some .boolean) 0 ΛX [.int x] μ (pI fun r μ2 => r = (b2i (isD x = true)) ∧ μ2 = μ) := by
  refine Ct.go (lo := [some (.int x)]) (by decide) (Nat.le_of_ble_eq_true rfl) rfl rfl (fun X F => ?_)
  have F : Fx X cX7_isDigit RX7 0 (some .boolean) ΛX := F
  refine v_iload_n (pc := 0) (i := 0) F dX7_isDigit_0 rfl rfl ?_
  refine v_bipush (pc := 1) (v := nI 48) F dX7_isDigit_1 (by decide) ?_
  refine v_icmp_lt (pc := 3) (tgt := 16) F dX7_isDigit_3 (by decide) (fun h1 => ?_) (fun h1 => ?_)
  · skip
    refine v_iconst (pc := 16) (v := nI 0) F dX7_isDigit_16 (by decide) ?_
    refine v_ireturn (pc := 17) F dX7_isDigit_17 (rfl) ?_
    refine ⟨?_, rfl⟩
    refine b2i_n (fun z => ?_)
    have q := inB_def.mp z
    first | exact Int32.not_lt.mpr q.1 h1 | exact Int32.not_lt.mpr q.2 h2
  · skip
    refine v_iload_n (pc := 6) (i := 0) F dX7_isDigit_6 rfl rfl ?_
    refine v_bipush (pc := 7) (v := nI 57) F dX7_isDigit_7 (by decide) ?_
    refine v_icmp_gt (pc := 9) (tgt := 16) F dX7_isDigit_9 (by decide) (fun h2 => ?_) (fun h2 => ?_)
    · skip
      refine v_iconst (pc := 16) (v := nI 0) F dX7_isDigit_16 (by decide) ?_
      refine v_ireturn (pc := 17) F dX7_isDigit_17 (rfl) ?_
      refine ⟨?_, rfl⟩
      refine b2i_n (fun z => ?_)
      have q := inB_def.mp z
      first | exact Int32.not_lt.mpr q.1 h1 | exact Int32.not_lt.mpr q.2 h2
    · skip
      refine v_iconst (pc := 12) (v := nI 1) F dX7_isDigit_12 (by decide) ?_
      refine v_goto (pc := 13) (tgt := 17) F dX7_isDigit_13 (by decide) ?_
      refine v_ireturn (pc := 17) F dX7_isDigit_17 (rfl) ?_
      refine ⟨?_, rfl⟩
      exact b2i_y (inB_def.mpr ⟨Int32.not_lt.mp h1, Int32.not_lt.mp h2⟩)

theorem wdB_iff {t : Nat → Int32} {f e j : Nat} : wdB t f e j = true ↔ e - f = j_len.getD j 0 ∧ ∀ i, i < j_len.getD j 0 → t (f + i) = (j_byt.getD j []).getD i 0 := by
  simp [wdB, List.all_eq_true]
def NBP (tp : Nat → Int32) (t a M x : Nat) (μ : j_M) (r : Int32) (μ2 : j_M) : Prop := match nbr tp t a M with
  | none => r = nI 0 ∧ μ2.1 x 3 = nI (tkF tp t a) ∧ Fm (PTP x) μ μ2
  | some v => r = nI v ∧ v < M ∧ μ2.1 x 2 = nI (tkT tp t a) ∧ Fm (PAT x) μ μ2
theorem NBP.no {tp : Nat → Int32} {t a M x : Nat} {μ μ2 : j_M} {r : Int32} (h : nbr tp t a M = none) (h1 : r = nI 0) (h2 : μ2.1 x 3 = nI (tkF tp t a)) (h3 : Fm (PTP x) μ μ2) : NBP tp t a M x μ r μ2 := by
  unfold NBP; rw [h]; exact ⟨h1, h2, h3⟩
theorem NBP.yes {tp : Nat → Int32} {t a M x v : Nat} {μ μ2 : j_M} {r : Int32} (h : nbr tp t a M = some v) (h1 : r = nI v) (h4 : v < M) (h2 : μ2.1 x 2 = nI (tkT tp t a)) (h3 : Fm (PAT x) μ μ2) : NBP tp t a M x μ r μ2 := by
  unfold NBP; rw [h]; exact ⟨h1, h4, h2, h3⟩

set_option maxRecDepth 100000 in
theorem c_X7_spellingOf (j : Nat) (hj : j < 6) (μ : j_M) : Ct yX7_spellingOf cX7_spellingOf 1 (some (.object "java/lang/String")) 0 ΛX [.int (nI j)] μ (pR fun r μ2 => r = 1000 + j ∧ μ2 = μ) := by
  refine Ct.go (lo := [some (.int (nI j))]) (by decide) (Nat.le_of_ble_eq_true rfl) rfl rfl (fun X F => ?_)
  have F : Fx X cX7_spellingOf RX7 0 (some (.object "java/lang/String")) ΛX := F
  rcases (show j = 0 ∨ j = 1 ∨ j = 2 ∨ j = 3 ∨ j = 4 ∨ j = 5 by omega) with rfl | rfl | rfl | rfl | rfl | rfl
  · skip
    refine v_iload_n (pc := 0) (i := 0) F dX7_spellingOf_0 rfl rfl ?_
    refine v_tin (pc := 1) (tgt := 36) F dX7_spellingOf_1 (by decide) (by decide) (by rfl) (by decide) ?_
    refine v_ldcS (pc := 36) (j := 0) F dX7_spellingOf_36 (List.mem_of_getElem? (i := 0) rfl) ?_
    refine v_areturn (pc := 38) F dX7_spellingOf_38 ?_
    exact ⟨rfl, rfl⟩
  · skip
    refine v_iload_n (pc := 0) (i := 0) F dX7_spellingOf_0 rfl rfl ?_
    refine v_tin (pc := 1) (tgt := 39) F dX7_spellingOf_1 (by decide) (by decide) (by rfl) (by decide) ?_
    refine v_ldcS (pc := 39) (j := 1) F dX7_spellingOf_39 (List.mem_of_getElem? (i := 1) rfl) ?_
    refine v_areturn (pc := 41) F dX7_spellingOf_41 ?_
    exact ⟨rfl, rfl⟩
  · skip
    refine v_iload_n (pc := 0) (i := 0) F dX7_spellingOf_0 rfl rfl ?_
    refine v_tin (pc := 1) (tgt := 42) F dX7_spellingOf_1 (by decide) (by decide) (by rfl) (by decide) ?_
    refine v_ldcS (pc := 42) (j := 2) F dX7_spellingOf_42 (List.mem_of_getElem? (i := 2) rfl) ?_
    refine v_areturn (pc := 44) F dX7_spellingOf_44 ?_
    exact ⟨rfl, rfl⟩
  · skip
    refine v_iload_n (pc := 0) (i := 0) F dX7_spellingOf_0 rfl rfl ?_
    refine v_tin (pc := 1) (tgt := 45) F dX7_spellingOf_1 (by decide) (by decide) (by rfl) (by decide) ?_
    refine v_ldcS (pc := 45) (j := 3) F dX7_spellingOf_45 (List.mem_of_getElem? (i := 3) rfl) ?_
    refine v_areturn (pc := 47) F dX7_spellingOf_47 ?_
    exact ⟨rfl, rfl⟩
  · skip
    refine v_iload_n (pc := 0) (i := 0) F dX7_spellingOf_0 rfl rfl ?_
    refine v_tin (pc := 1) (tgt := 48) F dX7_spellingOf_1 (by decide) (by decide) (by rfl) (by decide) ?_
    refine v_ldcS (pc := 48) (j := 4) F dX7_spellingOf_48 (List.mem_of_getElem? (i := 4) rfl) ?_
    refine v_areturn (pc := 50) F dX7_spellingOf_50 ?_
    exact ⟨rfl, rfl⟩
  · skip
    refine v_iload_n (pc := 0) (i := 0) F dX7_spellingOf_0 rfl rfl ?_
    refine v_tout (pc := 1) (tgt := 51) F dX7_spellingOf_1 (by decide) (by decide) ?_
    refine v_ldcS (pc := 51) (j := 5) F dX7_spellingOf_51 (List.mem_of_getElem? (i := 5) rfl) ?_
    refine v_areturn (pc := 53) F dX7_spellingOf_53 ?_
    exact ⟨rfl, rfl⟩

set_option maxRecDepth 100000 in
theorem c_X7_isSpelled (x : Nat) (hx : j_ob ΛX x 7) (tp : Nat → Int32) (t e : Nat) (μ : j_M) (hb : ∀ j, j < t → μ.1 (x + 1) j = tp j) (ht : μ.1 x 1 = nI t) (ht2 : t ≤ 250) (ha : μ.1 x 2 = nI e) (het : e ≤ t) (j f : Nat) (hj : j < 6) (hfe : f ≤ e) : Ct yX7_isSpelled cX7_isSpelled 4 (some .boolean) 4 ΛX [.ref x, .ref (1000 + j), .int (nI f)] μ (pI fun r μ2 => r = (b2i (wdB tp f e j = true)) ∧ μ2 = μ) := by
  refine Ct.go (lo := [some (.ref x), some (.ref (1000 + j)), some (.int (nI f)), none]) (by decide) (Nat.le_of_ble_eq_true rfl) rfl rfl (fun X F => ?_)
  have F : Fx X cX7_isSpelled RX7 4 (some .boolean) ΛX := F
  have hl6 := j_lenb hj
  refine v_aload_n (pc := 0) (i := 1) F dX7_isSpelled_0 rfl rfl ?_
  refine v_callTI (pc := 1) (As := []) (rest := []) (b := j) F mJ0_length_8abf5 kX7_107 im_J0_length_8abf5 se_J0_length_8abf5 dX7_isSpelled_1 rfl hj (c_J0_length _ j hj _) (by decide) rfl rfl (Nat.le_of_ble_eq_true rfl) (fun x1 μ1 hp1 => ?_)
  rw [hp1.1, hp1.2]
  refine v_aload_n (pc := 4) (i := 0) F dX7_isSpelled_4 rfl rfl ?_
  refine v_getI (pc := 5) F fX7_22 dX7_isSpelled_5 rfl hx ?_
  refine v_topE (y := nI e) (ha) ?_
  refine v_iload_n (pc := 8) (i := 2) F dX7_isSpelled_8 rfl rfl ?_
  refine v_isub (pc := 9) F dX7_isSpelled_9 ?_
  refine v_topE (pk_sub (by omega)) ?_
  refine v_icmp_eq (pc := 10) (tgt := 15) F dX7_isSpelled_10 (by decide) (fun hl => ?_) (fun hl => ?_)
  · rw [nI_eq (by omega) (by omega)] at hl
    refine v_iconst (pc := 15) (v := nI 0) F dX7_isSpelled_15 (by decide) ?_
    refine v_istore_n (pc := 16) (lo' := [some (.ref _), some (.ref _), some (.int _), some (.int _)]) F dX7_isSpelled_16 rfl rfl (Nat.le_of_ble_eq_true rfl) rfl ?_
    refine j_up ((j_len.getD j 0)) (fun k => (∀ i, i < k → tp (f + i) = (j_byt.getD j []).getD i 0) → V X _ 17 [some (.ref x), some (.ref (1000 + j)), some (.int (nI f)), some (.int (nI k))] [] μ) (fun k hk ih hI => ?_) 0 (Nat.zero_le _) (fun i hi => absurd hi (Nat.not_lt_zero _))
    refine v_iload_n (pc := 17) (i := 3) F dX7_isSpelled_17 rfl rfl ?_
    refine v_aload_n (pc := 18) (i := 1) F dX7_isSpelled_18 rfl rfl ?_
    refine v_callTI (pc := 19) (As := []) (rest := [_]) (b := j) F mJ0_length_8abf5 kX7_107 im_J0_length_8abf5 se_J0_length_8abf5 dX7_isSpelled_19 rfl hj (c_J0_length _ j hj _) (by decide) rfl rfl (Nat.le_of_ble_eq_true rfl) (fun x3 μ3 hp3 => ?_)
    rw [hp3.1, hp3.2]
    refine v_icmp_ge (pc := 22) (tgt := 49) F dX7_isSpelled_22 (by decide) (fun h22_4 => ?_) (fun h22_4 => ?_)
    · rw [nI_leI (by omega) (by omega)] at h22_4
      refine v_iconst (pc := 49) (v := nI 1) F dX7_isSpelled_49 (by decide) ?_
      refine v_ireturn (pc := 50) F dX7_isSpelled_50 (rfl) ?_
      exact ⟨b2i_y (wdB_iff.mpr ⟨hl.symm, fun i hi => hI i (by omega)⟩), rfl⟩
    · rw [nI_leI (by omega) (by omega)] at h22_4
      refine v_aload_n (pc := 25) (i := 0) F dX7_isSpelled_25 rfl rfl ?_
      refine v_getR (pc := 26) (o := 1) F fX7_9 dX7_isSpelled_26 rfl hx ?_
      refine v_topR (y := x + 1) rfl ?_
      refine v_iload_n (pc := 29) (i := 2) F dX7_isSpelled_29 rfl rfl ?_
      refine v_iload_n (pc := 30) (i := 3) F dX7_isSpelled_30 rfl rfl ?_
      refine v_iadd (pc := 31) F dX7_isSpelled_31 ?_
      refine v_topE (nI_add _ _) ?_
      refine v_ialdN (pc := 32) (k0 := f + k) F dX7_isSpelled_32 (lx7_0 hx) (rfl) (by omega) (by decide) ?_
      refine v_topE (y := (tp (f + k))) (hb (f + k) (by omega)) ?_
      refine v_aload_n (pc := 33) (i := 1) F dX7_isSpelled_33 rfl rfl ?_
      refine v_iload_n (pc := 34) (i := 3) F dX7_isSpelled_34 rfl rfl ?_
      refine v_callTI (pc := 35) (As := [_]) (rest := [_]) (b := j) F mJ0_charAt_5068e kX7_112 im_J0_charAt_5068e se_J0_charAt_5068e dX7_isSpelled_35 rfl hj (c_J0_charAt _ j k hj (by omega) _) (by decide) rfl rfl (Nat.le_of_ble_eq_true rfl) (fun x5 μ5 hp5 => ?_)
      rw [hp5.1, hp5.2]
      refine v_icmp_eq (pc := 38) (tgt := 43) F dX7_isSpelled_38 (by decide) (fun hc => ?_) (fun hc => ?_)
      · skip
        refine v_iinc (pc := 43) (i := 3) (v := nI (k + 1)) (lo' := [some (.ref _), some (.ref _), some (.int _), some (.int _)]) F dX7_isSpelled_43 rfl (j_inc _) rfl rfl ?_
        refine v_goto (pc := 46) (tgt := 17) F dX7_isSpelled_46 (by decide) ?_
        exact ih (by omega) (fun i hi => by rcases Nat.lt_succ_iff_lt_or_eq.mp hi with q | q; exact hI i q; rw [q]; exact hc)
      · skip
        refine v_iconst (pc := 41) (v := nI 0) F dX7_isSpelled_41 (by decide) ?_
        refine v_ireturn (pc := 42) F dX7_isSpelled_42 (rfl) ?_
        exact ⟨b2i_n (fun z => hc ((wdB_iff.mp z).2 k (by omega))), rfl⟩
  · rw [nI_eq (by omega) (by omega)] at hl
    refine v_iconst (pc := 13) (v := nI 0) F dX7_isSpelled_13 (by decide) ?_
    refine v_ireturn (pc := 14) F dX7_isSpelled_14 (rfl) ?_
    exact ⟨b2i_n (fun z => hl (wdB_iff.mp z).1.symm), rfl⟩

set_option maxRecDepth 100000 in
theorem c_X7_readWord (x : Nat) (hx : j_ob ΛX x 7) (tp : Nat → Int32) (t f : Nat) (μ : j_M) (hb : ∀ j, j < t → μ.1 (x + 1) j = tp j) (ht : μ.1 x 1 = nI t) (ht2 : t ≤ 250) (ha : μ.1 x 2 = nI f) (hft : f ≤ t)  : Ct yX7_readWord cX7_readWord 3 (some .int) 5 ΛX [.ref x] μ (pI fun r μ2 => Fm (PAT x) μ μ2 ∧ μ2.1 x 2 = nI (scan isL tp t f) ∧ ((∃ j, j < 6 ∧ r = nI j ∧ wdB tp f (scan isL tp t f) j = true ∧ ∀ i, i < j → ¬ wdB tp f (scan isL tp t f) i = true) ∨ (r = -1 ∧ ∀ i, i < 6 → ¬ wdB tp f (scan isL tp t f) i = true))) := by
  refine Ct.go (lo := [some (.ref x), none, none]) (by decide) (Nat.le_of_ble_eq_true rfl) rfl rfl (fun X F => ?_)
  have F : Fx X cX7_readWord RX7 5 (some .int) ΛX := F
  refine v_aload_n (pc := 0) (i := 0) F dX7_readWord_0 rfl rfl ?_
  refine v_getI (pc := 1) F fX7_22 dX7_readWord_1 rfl hx ?_
  refine v_topE (y := nI f) (ha) ?_
  refine v_istore_n (pc := 4) (lo' := [some (.ref _), some (.int _), _]) F dX7_readWord_4 rfl rfl (Nat.le_of_ble_eq_true rfl) rfl ?_
  refine j_up (t - f) (fun k => ∀ μ' : j_M, (Fm (PAT x) μ μ' ∧ μ'.1 x 2 = nI (f + k) ∧ scan isL tp t f = scan isL tp t (f + k)) → V X _ 5 [some (.ref x), some (.int (nI f)), none] [] μ') (fun k hk ih μ' hI => ?_) 0 (Nat.zero_le _) μ (⟨Fm.rf, ha, rfl⟩)
  refine v_aload_n (pc := 5) (i := 0) F dX7_readWord_5 rfl rfl ?_
  refine v_getI (pc := 6) F fX7_22 dX7_readWord_6 rfl hx ?_
  refine v_topE (y := nI (f + k)) (hI.2.1) ?_
  refine v_aload_n (pc := 9) (i := 0) F dX7_readWord_9 rfl rfl ?_
  refine v_getI (pc := 10) F fX7_19 dX7_readWord_10 rfl hx ?_
  refine v_topE (y := nI t) ((hI.1.1 _ _ (by omega)).trans (ht)) ?_
  refine v_icmp_ge (pc := 13) (tgt := 57) F dX7_readWord_13 (by decide) (fun h13 => ?_) (fun h13 => ?_)
  · rw [nI_leI (by omega) (by omega)] at h13
    have hsc : scan isL tp t f = f + k := by
      rw [hI.2.2, scan_n (by omega)]
    refine v_iconst (pc := 57) (v := nI 0) F dX7_readWord_57 (by decide) ?_
    refine v_istore_n (pc := 58) (lo' := [some (.ref _), some (.int _), some (.int _)]) F dX7_readWord_58 rfl rfl (Nat.le_of_ble_eq_true rfl) rfl ?_
    refine j_up 6 (fun j => (∀ i, i < j → ¬ wdB tp f (f + k) i = true) → V X _ 59 [some (.ref x), some (.int (nI f)), some (.int (nI j))] [] μ') (fun j hj ih2 hJ => ?_) 0 (Nat.zero_le _) (fun i hi => absurd hi (Nat.not_lt_zero _))
    refine v_iload_n (pc := 59) (i := 2) F dX7_readWord_59 rfl rfl ?_
    refine v_bipush (pc := 60) (v := nI 6) F dX7_readWord_60 (by decide) ?_
    refine v_icmp_ge (pc := 62) (tgt := 85) F dX7_readWord_62 (by decide) (fun h62_2 => ?_) (fun h62_2 => ?_)
    · rw [nI_leI (by omega) (by omega)] at h62_2
      refine v_iconst (pc := 85) (v := (-1)) F dX7_readWord_85 (by decide) ?_
      refine v_ireturn (pc := 86) F dX7_readWord_86 (rfl) ?_
      rw [hsc]
      exact ⟨hI.1, hI.2.1, Or.inr ⟨rfl, fun i hi => hJ i (by omega)⟩⟩
    · rw [nI_leI (by omega) (by omega)] at h62_2
      refine v_aload_n (pc := 65) (i := 0) F dX7_readWord_65 rfl rfl ?_
      refine v_iload_n (pc := 66) (i := 2) F dX7_readWord_66 rfl rfl ?_
      refine v_callSR (pc := 67) (As := [_]) (rest := [_]) F mX7_spellingOf kX7_99 sm_X7_spellingOf dX7_readWord_67 (c_X7_spellingOf j (by omega) _) (by decide) rfl rfl (Nat.le_of_ble_eq_true rfl) (fun x3 μ3 hp3 => ?_)
      rw [hp3.1, hp3.2]
      have hj6 : j < 6 := by omega
      refine v_iload_n (pc := 70) (i := 1) F dX7_readWord_70 rfl rfl ?_
      refine v_callVI (pc := 71) (As := [_, _]) (rest := []) (c := 7) F mX7_isSpelled kX7_103 im_X7_isSpelled se_X7_isSpelled dX7_readWord_71 rfl rfl (by decide) (c_X7_isSpelled x hx tp t (f + k) μ' (fun j hj => (hI.1.1 _ _ (by omega)).trans (hb j hj)) ((hI.1.1 _ _ (by omega)).trans ht) ht2 hI.2.1 (by omega) j f hj6 (by omega)) (by decide) rfl rfl (Nat.le_of_ble_eq_true rfl) hx (fun x4 μ4 hp4 => ?_)
      rw [hp4.1, hp4.2]
      refine v_if_eq (pc := 74) (tgt := 79) F dX7_readWord_74 (by decide) (fun hwd => ?_) (fun hwd => ?_)
      · rw [b2i_0] at hwd
        refine v_iinc (pc := 79) (i := 2) (v := nI (j + 1)) (lo' := [some (.ref _), some (.int _), some (.int _)]) F dX7_readWord_79 rfl (j_inc _) rfl rfl ?_
        refine v_goto (pc := 82) (tgt := 59) F dX7_readWord_82 (by decide) ?_
        exact ih2 (by omega) (fun i hi => by rcases Nat.lt_succ_iff_lt_or_eq.mp hi with q | q; exact hJ i q; rw [q]; exact hwd)
      · rw [b2i_0] at hwd
        rw [Classical.not_not] at hwd
        refine v_iload_n (pc := 77) (i := 2) F dX7_readWord_77 rfl rfl ?_
        refine v_ireturn (pc := 78) F dX7_readWord_78 (rfl) ?_
        rw [hsc]
        exact ⟨hI.1, hI.2.1, Or.inl ⟨j, hj6, rfl, hwd, hJ⟩⟩
  · rw [nI_leI (by omega) (by omega)] at h13
    refine v_aload_n (pc := 16) (i := 0) F dX7_readWord_16 rfl rfl ?_
    refine v_getR (pc := 17) (o := 1) F fX7_9 dX7_readWord_17 rfl hx ?_
    refine v_topR (y := x + 1) rfl ?_
    refine v_aload_n (pc := 20) (i := 0) F dX7_readWord_20 rfl rfl ?_
    refine v_getI (pc := 21) F fX7_22 dX7_readWord_21 rfl hx ?_
    refine v_topE (y := nI (f + k)) (hI.2.1) ?_
    refine v_ialdN (pc := 24) (k0 := f + k) F dX7_readWord_24 (lx7_0 hx) (rfl) (by omega) (by decide) ?_
    refine v_topE (y := (tp (f + k))) ((hI.1.1 _ _ (by omega)).trans (hb (f + k) (by omega))) ?_
    refine v_bipush (pc := 25) (v := nI 97) F dX7_readWord_25 (by decide) ?_
    refine v_icmp_lt (pc := 27) (tgt := 57) F dX7_readWord_27 (by decide) (fun h27 => ?_) (fun h27 => ?_)
    · skip
      have hsc : scan isL tp t f = f + k := by
        rw [hI.2.2, scan_f (fun z => ?_)]
        exact Int32.not_lt.mpr (inB_def.mp z).1 h27
      refine v_iconst (pc := 57) (v := nI 0) F dX7_readWord_57 (by decide) ?_
      refine v_istore_n (pc := 58) (lo' := [some (.ref _), some (.int _), some (.int _)]) F dX7_readWord_58 rfl rfl (Nat.le_of_ble_eq_true rfl) rfl ?_
      refine j_up 6 (fun j => (∀ i, i < j → ¬ wdB tp f (f + k) i = true) → V X _ 59 [some (.ref x), some (.int (nI f)), some (.int (nI j))] [] μ') (fun j hj ih2 hJ => ?_) 0 (Nat.zero_le _) (fun i hi => absurd hi (Nat.not_lt_zero _))
      refine v_iload_n (pc := 59) (i := 2) F dX7_readWord_59 rfl rfl ?_
      refine v_bipush (pc := 60) (v := nI 6) F dX7_readWord_60 (by decide) ?_
      refine v_icmp_ge (pc := 62) (tgt := 85) F dX7_readWord_62 (by decide) (fun h62_7 => ?_) (fun h62_7 => ?_)
      · rw [nI_leI (by omega) (by omega)] at h62_7
        refine v_iconst (pc := 85) (v := (-1)) F dX7_readWord_85 (by decide) ?_
        refine v_ireturn (pc := 86) F dX7_readWord_86 (rfl) ?_
        rw [hsc]
        exact ⟨hI.1, hI.2.1, Or.inr ⟨rfl, fun i hi => hJ i (by omega)⟩⟩
      · rw [nI_leI (by omega) (by omega)] at h62_7
        refine v_aload_n (pc := 65) (i := 0) F dX7_readWord_65 rfl rfl ?_
        refine v_iload_n (pc := 66) (i := 2) F dX7_readWord_66 rfl rfl ?_
        refine v_callSR (pc := 67) (As := [_]) (rest := [_]) F mX7_spellingOf kX7_99 sm_X7_spellingOf dX7_readWord_67 (c_X7_spellingOf j (by omega) _) (by decide) rfl rfl (Nat.le_of_ble_eq_true rfl) (fun x8 μ8 hp8 => ?_)
        rw [hp8.1, hp8.2]
        have hj6 : j < 6 := by omega
        refine v_iload_n (pc := 70) (i := 1) F dX7_readWord_70 rfl rfl ?_
        refine v_callVI (pc := 71) (As := [_, _]) (rest := []) (c := 7) F mX7_isSpelled kX7_103 im_X7_isSpelled se_X7_isSpelled dX7_readWord_71 rfl rfl (by decide) (c_X7_isSpelled x hx tp t (f + k) μ' (fun j hj => (hI.1.1 _ _ (by omega)).trans (hb j hj)) ((hI.1.1 _ _ (by omega)).trans ht) ht2 hI.2.1 (by omega) j f hj6 (by omega)) (by decide) rfl rfl (Nat.le_of_ble_eq_true rfl) hx (fun x9 μ9 hp9 => ?_)
        rw [hp9.1, hp9.2]
        refine v_if_eq (pc := 74) (tgt := 79) F dX7_readWord_74 (by decide) (fun hwd => ?_) (fun hwd => ?_)
        · rw [b2i_0] at hwd
          refine v_iinc (pc := 79) (i := 2) (v := nI (j + 1)) (lo' := [some (.ref _), some (.int _), some (.int _)]) F dX7_readWord_79 rfl (j_inc _) rfl rfl ?_
          refine v_goto (pc := 82) (tgt := 59) F dX7_readWord_82 (by decide) ?_
          exact ih2 (by omega) (fun i hi => by rcases Nat.lt_succ_iff_lt_or_eq.mp hi with q | q; exact hJ i q; rw [q]; exact hwd)
        · rw [b2i_0] at hwd
          rw [Classical.not_not] at hwd
          refine v_iload_n (pc := 77) (i := 2) F dX7_readWord_77 rfl rfl ?_
          refine v_ireturn (pc := 78) F dX7_readWord_78 (rfl) ?_
          rw [hsc]
          exact ⟨hI.1, hI.2.1, Or.inl ⟨j, hj6, rfl, hwd, hJ⟩⟩
    · skip
      refine v_aload_n (pc := 30) (i := 0) F dX7_readWord_30 rfl rfl ?_
      refine v_getR (pc := 31) (o := 1) F fX7_9 dX7_readWord_31 rfl hx ?_
      refine v_topR (y := x + 1) rfl ?_
      refine v_aload_n (pc := 34) (i := 0) F dX7_readWord_34 rfl rfl ?_
      refine v_getI (pc := 35) F fX7_22 dX7_readWord_35 rfl hx ?_
      refine v_topE (y := nI (f + k)) (hI.2.1) ?_
      refine v_ialdN (pc := 38) (k0 := f + k) F dX7_readWord_38 (lx7_0 hx) (rfl) (by omega) (by decide) ?_
      refine v_topE (y := (tp (f + k))) ((hI.1.1 _ _ (by omega)).trans (hb (f + k) (by omega))) ?_
      refine v_bipush (pc := 39) (v := nI 122) F dX7_readWord_39 (by decide) ?_
      refine v_icmp_gt (pc := 41) (tgt := 57) F dX7_readWord_41 (by decide) (fun h41 => ?_) (fun h41 => ?_)
      · skip
        have hsc : scan isL tp t f = f + k := by
          rw [hI.2.2, scan_f (fun z => ?_)]
          exact Int32.not_lt.mpr (inB_def.mp z).2 h41
        refine v_iconst (pc := 57) (v := nI 0) F dX7_readWord_57 (by decide) ?_
        refine v_istore_n (pc := 58) (lo' := [some (.ref _), some (.int _), some (.int _)]) F dX7_readWord_58 rfl rfl (Nat.le_of_ble_eq_true rfl) rfl ?_
        refine j_up 6 (fun j => (∀ i, i < j → ¬ wdB tp f (f + k) i = true) → V X _ 59 [some (.ref x), some (.int (nI f)), some (.int (nI j))] [] μ') (fun j hj ih2 hJ => ?_) 0 (Nat.zero_le _) (fun i hi => absurd hi (Nat.not_lt_zero _))
        refine v_iload_n (pc := 59) (i := 2) F dX7_readWord_59 rfl rfl ?_
        refine v_bipush (pc := 60) (v := nI 6) F dX7_readWord_60 (by decide) ?_
        refine v_icmp_ge (pc := 62) (tgt := 85) F dX7_readWord_62 (by decide) (fun h62_12 => ?_) (fun h62_12 => ?_)
        · rw [nI_leI (by omega) (by omega)] at h62_12
          refine v_iconst (pc := 85) (v := (-1)) F dX7_readWord_85 (by decide) ?_
          refine v_ireturn (pc := 86) F dX7_readWord_86 (rfl) ?_
          rw [hsc]
          exact ⟨hI.1, hI.2.1, Or.inr ⟨rfl, fun i hi => hJ i (by omega)⟩⟩
        · rw [nI_leI (by omega) (by omega)] at h62_12
          refine v_aload_n (pc := 65) (i := 0) F dX7_readWord_65 rfl rfl ?_
          refine v_iload_n (pc := 66) (i := 2) F dX7_readWord_66 rfl rfl ?_
          refine v_callSR (pc := 67) (As := [_]) (rest := [_]) F mX7_spellingOf kX7_99 sm_X7_spellingOf dX7_readWord_67 (c_X7_spellingOf j (by omega) _) (by decide) rfl rfl (Nat.le_of_ble_eq_true rfl) (fun x13 μ13 hp13 => ?_)
          rw [hp13.1, hp13.2]
          have hj6 : j < 6 := by omega
          refine v_iload_n (pc := 70) (i := 1) F dX7_readWord_70 rfl rfl ?_
          refine v_callVI (pc := 71) (As := [_, _]) (rest := []) (c := 7) F mX7_isSpelled kX7_103 im_X7_isSpelled se_X7_isSpelled dX7_readWord_71 rfl rfl (by decide) (c_X7_isSpelled x hx tp t (f + k) μ' (fun j hj => (hI.1.1 _ _ (by omega)).trans (hb j hj)) ((hI.1.1 _ _ (by omega)).trans ht) ht2 hI.2.1 (by omega) j f hj6 (by omega)) (by decide) rfl rfl (Nat.le_of_ble_eq_true rfl) hx (fun x14 μ14 hp14 => ?_)
          rw [hp14.1, hp14.2]
          refine v_if_eq (pc := 74) (tgt := 79) F dX7_readWord_74 (by decide) (fun hwd => ?_) (fun hwd => ?_)
          · rw [b2i_0] at hwd
            refine v_iinc (pc := 79) (i := 2) (v := nI (j + 1)) (lo' := [some (.ref _), some (.int _), some (.int _)]) F dX7_readWord_79 rfl (j_inc _) rfl rfl ?_
            refine v_goto (pc := 82) (tgt := 59) F dX7_readWord_82 (by decide) ?_
            exact ih2 (by omega) (fun i hi => by rcases Nat.lt_succ_iff_lt_or_eq.mp hi with q | q; exact hJ i q; rw [q]; exact hwd)
          · rw [b2i_0] at hwd
            rw [Classical.not_not] at hwd
            refine v_iload_n (pc := 77) (i := 2) F dX7_readWord_77 rfl rfl ?_
            refine v_ireturn (pc := 78) F dX7_readWord_78 (rfl) ?_
            rw [hsc]
            exact ⟨hI.1, hI.2.1, Or.inl ⟨j, hj6, rfl, hwd, hJ⟩⟩
      · skip
        refine v_aload_n (pc := 44) (i := 0) F dX7_readWord_44 rfl rfl ?_
        refine v_dup (pc := 45) F dX7_readWord_45 rfl ?_
        refine v_getI (pc := 46) F fX7_22 dX7_readWord_46 rfl hx ?_
        refine v_topE (y := nI (f + k)) (hI.2.1) ?_
        refine v_iconst (pc := 49) (v := nI 1) F dX7_readWord_49 (by decide) ?_
        refine v_iadd (pc := 50) F dX7_readWord_50 ?_
        refine v_topE (nI_add _ _) ?_
        refine v_put (pc := 51) F fX7_22 dX7_readWord_51 rfl rfl rfl hx ?_
        refine v_goto (pc := 54) (tgt := 5) F dX7_readWord_54 (by decide) ?_
        have hpl : isL (tp (f + k)) = true := inB_def.mpr ⟨Int32.not_lt.mp h27, Int32.not_lt.mp h41⟩
        exact ih (by omega) _ ⟨hI.1.pI ⟨rfl, rfl⟩, j_pI_at, hI.2.2.trans (scan_s (by omega) hpl)⟩

set_option maxRecDepth 100000 in
theorem c_X7_readNumberF (x : Nat) (hx : j_ob ΛX x 7) (hi : Int32) (g : Nat) (μ : j_M) (hg : g < 2 ^ 31) (hfl : μ.1 x 3 = nI g) : Ct yX7_readNumber cX7_readNumber 5 (some .int) 0 ΛX [.ref x, .int hi] μ (pI fun r μ2 => r = nI 0 ∧ μ2 = μ) := by
  refine Ct.go (lo := [some (.ref x), some (.int hi), none, none, none]) (by decide) (Nat.le_of_ble_eq_true rfl) rfl rfl (fun X F => ?_)
  have F : Fx X cX7_readNumber RX7 0 (some .int) ΛX := F
  refine v_aload_n (pc := 0) (i := 0) F dX7_readNumber_0 rfl rfl ?_
  refine v_getI (pc := 1) F fX7_15 dX7_readNumber_1 rfl hx ?_
  refine v_topE (y := nI g) (hfl) ?_
  refine v_iconst (pc := 4) (v := (-1)) F dX7_readNumber_4 (by decide) ?_
  refine v_icmp_eq (pc := 5) (tgt := 10) F dX7_readNumber_5 (by decide) (fun h5_1 => ?_) (fun h5_1 => ?_)
  · rw [j_nm1 (by omega)] at h5_1
    exact (h5_1).elim
  · rw [j_nm1 (by omega)] at h5_1
    refine v_iconst (pc := 8) (v := nI 0) F dX7_readNumber_8 (by decide) ?_
    refine v_ireturn (pc := 9) F dX7_readNumber_9 (rfl) ?_
    exact ⟨rfl, rfl⟩

set_option maxRecDepth 100000 in
theorem c_X7_readNumber (x : Nat) (hx : j_ob ΛX x 7) (tp : Nat → Int32) (t a : Nat) (μ : j_M) (hb : ∀ j, j < t → μ.1 (x + 1) j = tp j) (ht : μ.1 x 1 = nI t) (ht2 : t ≤ 250) (ha : μ.1 x 2 = nI a) (hat : a ≤ t) (hi : Int32) (M : Nat) (hM : ∀ v, (nI 0 ≤ v ∧ v ≤ hi) = (inQ M v = true)) (hM31 : M < 2 ^ 31) (hfl : μ.1 x 3 = -1) : Ct yX7_readNumber cX7_readNumber 5 (some .int) 3 ΛX [.ref x, .int hi] μ (pI fun r μ2 => NBP tp t a M x μ r μ2) := by
  refine Ct.go (lo := [some (.ref x), some (.int hi), none, none, none]) (by decide) (Nat.le_of_ble_eq_true rfl) rfl rfl (fun X F => ?_)
  have F : Fx X cX7_readNumber RX7 3 (some .int) ΛX := F
  refine v_aload_n (pc := 0) (i := 0) F dX7_readNumber_0 rfl rfl ?_
  refine v_getI (pc := 1) F fX7_15 dX7_readNumber_1 rfl hx ?_
  refine v_topE (y := (-1)) (hfl) ?_
  refine v_iconst (pc := 4) (v := (-1)) F dX7_readNumber_4 (by decide) ?_
  refine v_icmp_eq (pc := 5) (tgt := 10) F dX7_readNumber_5 (by decide) (fun h5_1 => ?_) (fun h5_1 => ?_)
  · skip
    refine v_aload_n (pc := 10) (i := 0) F dX7_readNumber_10 rfl rfl ?_
    refine v_callVV (pc := 11) (As := []) (rest := []) (c := 7) F mX7_skipBlanks kX7_33 im_X7_skipBlanks se_X7_skipBlanks dX7_readNumber_11 rfl rfl (by decide) (c_X7_skipBlanks x hx tp t a _ hb ht ht2 ha hat) (by decide) rfl rfl (Nat.le_of_ble_eq_true rfl) hx (fun μ2 hp2 => ?_)
    obtain ⟨f, hf⟩ : ∃ f, tkF tp t a = f := ⟨_, rfl⟩
    have hfle := tkF_le (t := tp) hat
    rw [hf] at hfle
    have hsk := hp2
    rw [hf] at hsk
    refine v_aload_n (pc := 14) (i := 0) F dX7_readNumber_14 rfl rfl ?_
    refine v_getI (pc := 15) F fX7_22 dX7_readNumber_15 rfl hx ?_
    refine v_topE (y := nI f) (hsk.2) ?_
    refine v_istore_n (pc := 18) (lo' := [some (.ref _), some (.int _), some (.int _), _, _]) F dX7_readNumber_18 rfl rfl (Nat.le_of_ble_eq_true rfl) rfl ?_
    refine v_iconst (pc := 19) (v := nI 0) F dX7_readNumber_19 (by decide) ?_
    refine v_istore_n (pc := 20) (lo' := [some (.ref _), some (.int _), some (.int _), some (.int _), _]) F dX7_readNumber_20 rfl rfl (Nat.le_of_ble_eq_true rfl) rfl ?_
    refine j_up (t - f) (fun k => ∀ μ' : j_M, (Fm (PAT x) μ μ' ∧ μ'.1 x 2 = nI (f + k) ∧ scan isD tp t f = scan isD tp t (f + k) ∧ ∀ i, i < k → isD (tp (f + i)) = true) → V X _ 21 [some (.ref x), some (.int hi), some (.int (nI f)), some (.int ((cvl tp f k))), none] [] μ') (fun k hk ih μ' hI => ?_) 0 (Nat.zero_le _) μ2 (⟨hsk.1, hsk.2, rfl, fun i hi => absurd hi (Nat.not_lt_zero _)⟩)
    refine v_aload_n (pc := 21) (i := 0) F dX7_readNumber_21 rfl rfl ?_
    refine v_getI (pc := 22) F fX7_22 dX7_readNumber_22 rfl hx ?_
    refine v_topE (y := nI (f + k)) (hI.2.1) ?_
    refine v_aload_n (pc := 25) (i := 0) F dX7_readNumber_25 rfl rfl ?_
    refine v_getI (pc := 26) F fX7_19 dX7_readNumber_26 rfl hx ?_
    refine v_topE (y := nI t) ((hI.1.1 _ _ (by omega)).trans (ht)) ?_
    refine v_icmp_ge (pc := 29) (tgt := 88) F dX7_readNumber_29 (by decide) (fun h29 => ?_) (fun h29 => ?_)
    · rw [nI_leI (by omega) (by omega)] at h29
      have hsc : scan isD tp t f = f + k := by
        rw [hI.2.2.1, scan_n (by omega)]
      have hcl := nb_cls (tp := tp) hM hM31 hf hfle.2 hI.2.2.2 (by omega) hsc
      refine v_aload_n (pc := 88) (i := 0) F dX7_readNumber_88 rfl rfl ?_
      refine v_getI (pc := 89) F fX7_22 dX7_readNumber_89 rfl hx ?_
      refine v_topE (y := nI (f + k)) (hI.2.1) ?_
      refine v_iload_n (pc := 92) (i := 2) F dX7_readNumber_92 rfl rfl ?_
      refine v_isub (pc := 93) F dX7_readNumber_93 ?_
      refine v_topE (pk_sub (by omega)) ?_
      refine v_istore (pc := 94) (lo' := [some (.ref _), some (.int _), some (.int _), some (.int _), some (.int _)]) F dX7_readNumber_94 rfl (Nat.le_of_ble_eq_true rfl) rfl ?_
      refine v_iload (pc := 96) (i := 4) F dX7_readNumber_96 rfl ?_
      refine v_if_eq (pc := 98) (tgt := 112) F dX7_readNumber_98 (by decide) (fun h98 => ?_) (fun h98 => ?_)
      · rw [j_eq0 (by omega)] at h98
        refine v_aload_n (pc := 112) (i := 0) F dX7_readNumber_112 rfl rfl ?_
        refine v_iload_n (pc := 113) (i := 2) F dX7_readNumber_113 rfl rfl ?_
        refine v_put (pc := 114) F fX7_15 dX7_readNumber_114 rfl rfl rfl hx ?_
        refine v_iconst (pc := 117) (v := nI 0) F dX7_readNumber_117 (by decide) ?_
        refine v_ireturn (pc := 118) F dX7_readNumber_118 (rfl) ?_
        refine NBP.no ?_ rfl (by rw [hf]; exact j_pI_at) ((hI.1.mono (fun c j z => by omega)).pI (by omega))
        exact hcl.1 (by omega)
      · rw [j_eq0 (by omega)] at h98
        refine v_iload (pc := 101) (i := 4) F dX7_readNumber_101 rfl ?_
        refine v_iconst (pc := 103) (v := nI 2) F dX7_readNumber_103 (by decide) ?_
        refine v_icmp_gt (pc := 104) (tgt := 112) F dX7_readNumber_104 (by decide) (fun h104 => ?_) (fun h104 => ?_)
        · rw [nI_ltI (by omega) (by omega)] at h104
          refine v_aload_n (pc := 112) (i := 0) F dX7_readNumber_112 rfl rfl ?_
          refine v_iload_n (pc := 113) (i := 2) F dX7_readNumber_113 rfl rfl ?_
          refine v_put (pc := 114) F fX7_15 dX7_readNumber_114 rfl rfl rfl hx ?_
          refine v_iconst (pc := 117) (v := nI 0) F dX7_readNumber_117 (by decide) ?_
          refine v_ireturn (pc := 118) F dX7_readNumber_118 (rfl) ?_
          refine NBP.no ?_ rfl (by rw [hf]; exact j_pI_at) ((hI.1.mono (fun c j z => by omega)).pI (by omega))
          exact hcl.1 (by omega)
        · rw [nI_ltI (by omega) (by omega)] at h104
          refine v_iload_n (pc := 107) (i := 3) F dX7_readNumber_107 rfl rfl ?_
          refine v_iload_n (pc := 108) (i := 1) F dX7_readNumber_108 rfl rfl ?_
          refine v_icmp_le (pc := 109) (tgt := 119) F dX7_readNumber_109 (by decide) (fun hle => ?_) (fun hle => ?_)
          · skip
            refine v_iload_n (pc := 119) (i := 3) F dX7_readNumber_119 rfl rfl ?_
            refine v_ireturn (pc := 120) F dX7_readNumber_120 (rfl) ?_
            obtain ⟨v, hv1, hv2, hv3, hv4⟩ := hcl.2.2 (by omega) (by omega) hle
            exact NBP.yes hv3 hv2 hv1 (by rw [hv4]; exact hI.2.1) hI.1
          · skip
            refine v_aload_n (pc := 112) (i := 0) F dX7_readNumber_112 rfl rfl ?_
            refine v_iload_n (pc := 113) (i := 2) F dX7_readNumber_113 rfl rfl ?_
            refine v_put (pc := 114) F fX7_15 dX7_readNumber_114 rfl rfl rfl hx ?_
            refine v_iconst (pc := 117) (v := nI 0) F dX7_readNumber_117 (by decide) ?_
            refine v_ireturn (pc := 118) F dX7_readNumber_118 (rfl) ?_
            refine NBP.no ?_ rfl (by rw [hf]; exact j_pI_at) ((hI.1.mono (fun c j z => by omega)).pI (by omega))
            exact hcl.2.1 (by omega) (by omega) hle
    · rw [nI_leI (by omega) (by omega)] at h29
      refine v_aload_n (pc := 32) (i := 0) F dX7_readNumber_32 rfl rfl ?_
      refine v_getR (pc := 33) (o := 1) F fX7_9 dX7_readNumber_33 rfl hx ?_
      refine v_topR (y := x + 1) rfl ?_
      refine v_aload_n (pc := 36) (i := 0) F dX7_readNumber_36 rfl rfl ?_
      refine v_getI (pc := 37) F fX7_22 dX7_readNumber_37 rfl hx ?_
      refine v_topE (y := nI (f + k)) (hI.2.1) ?_
      refine v_ialdN (pc := 40) (k0 := f + k) F dX7_readNumber_40 (lx7_0 hx) (rfl) (by omega) (by decide) ?_
      refine v_topE (y := (tp (f + k))) ((hI.1.1 _ _ (by omega)).trans (hb (f + k) (by omega))) ?_
      refine v_callSI (pc := 41) (As := [_]) (rest := []) F mX7_isDigit kX7_95 sm_X7_isDigit dX7_readNumber_41 (c_X7_isDigit _ _) (by decide) rfl rfl (Nat.le_of_ble_eq_true rfl) (fun x7 μ7 hp7 => ?_)
      rw [hp7.1, hp7.2]
      refine v_if_eq (pc := 44) (tgt := 88) F dX7_readNumber_44 (by decide) (fun hdg => ?_) (fun hdg => ?_)
      · rw [b2i_0] at hdg
        have hsc : scan isD tp t f = f + k := by
          rw [hI.2.2.1, scan_f hdg]
        have hcl := nb_cls (tp := tp) hM hM31 hf hfle.2 hI.2.2.2 (by omega) hsc
        refine v_aload_n (pc := 88) (i := 0) F dX7_readNumber_88 rfl rfl ?_
        refine v_getI (pc := 89) F fX7_22 dX7_readNumber_89 rfl hx ?_
        refine v_topE (y := nI (f + k)) (hI.2.1) ?_
        refine v_iload_n (pc := 92) (i := 2) F dX7_readNumber_92 rfl rfl ?_
        refine v_isub (pc := 93) F dX7_readNumber_93 ?_
        refine v_topE (pk_sub (by omega)) ?_
        refine v_istore (pc := 94) (lo' := [some (.ref _), some (.int _), some (.int _), some (.int _), some (.int _)]) F dX7_readNumber_94 rfl (Nat.le_of_ble_eq_true rfl) rfl ?_
        refine v_iload (pc := 96) (i := 4) F dX7_readNumber_96 rfl ?_
        refine v_if_eq (pc := 98) (tgt := 112) F dX7_readNumber_98 (by decide) (fun h98 => ?_) (fun h98 => ?_)
        · rw [j_eq0 (by omega)] at h98
          refine v_aload_n (pc := 112) (i := 0) F dX7_readNumber_112 rfl rfl ?_
          refine v_iload_n (pc := 113) (i := 2) F dX7_readNumber_113 rfl rfl ?_
          refine v_put (pc := 114) F fX7_15 dX7_readNumber_114 rfl rfl rfl hx ?_
          refine v_iconst (pc := 117) (v := nI 0) F dX7_readNumber_117 (by decide) ?_
          refine v_ireturn (pc := 118) F dX7_readNumber_118 (rfl) ?_
          refine NBP.no ?_ rfl (by rw [hf]; exact j_pI_at) ((hI.1.mono (fun c j z => by omega)).pI (by omega))
          exact hcl.1 (by omega)
        · rw [j_eq0 (by omega)] at h98
          refine v_iload (pc := 101) (i := 4) F dX7_readNumber_101 rfl ?_
          refine v_iconst (pc := 103) (v := nI 2) F dX7_readNumber_103 (by decide) ?_
          refine v_icmp_gt (pc := 104) (tgt := 112) F dX7_readNumber_104 (by decide) (fun h104 => ?_) (fun h104 => ?_)
          · rw [nI_ltI (by omega) (by omega)] at h104
            refine v_aload_n (pc := 112) (i := 0) F dX7_readNumber_112 rfl rfl ?_
            refine v_iload_n (pc := 113) (i := 2) F dX7_readNumber_113 rfl rfl ?_
            refine v_put (pc := 114) F fX7_15 dX7_readNumber_114 rfl rfl rfl hx ?_
            refine v_iconst (pc := 117) (v := nI 0) F dX7_readNumber_117 (by decide) ?_
            refine v_ireturn (pc := 118) F dX7_readNumber_118 (rfl) ?_
            refine NBP.no ?_ rfl (by rw [hf]; exact j_pI_at) ((hI.1.mono (fun c j z => by omega)).pI (by omega))
            exact hcl.1 (by omega)
          · rw [nI_ltI (by omega) (by omega)] at h104
            refine v_iload_n (pc := 107) (i := 3) F dX7_readNumber_107 rfl rfl ?_
            refine v_iload_n (pc := 108) (i := 1) F dX7_readNumber_108 rfl rfl ?_
            refine v_icmp_le (pc := 109) (tgt := 119) F dX7_readNumber_109 (by decide) (fun hle => ?_) (fun hle => ?_)
            · skip
              refine v_iload_n (pc := 119) (i := 3) F dX7_readNumber_119 rfl rfl ?_
              refine v_ireturn (pc := 120) F dX7_readNumber_120 (rfl) ?_
              obtain ⟨v, hv1, hv2, hv3, hv4⟩ := hcl.2.2 (by omega) (by omega) hle
              exact NBP.yes hv3 hv2 hv1 (by rw [hv4]; exact hI.2.1) hI.1
            · skip
              refine v_aload_n (pc := 112) (i := 0) F dX7_readNumber_112 rfl rfl ?_
              refine v_iload_n (pc := 113) (i := 2) F dX7_readNumber_113 rfl rfl ?_
              refine v_put (pc := 114) F fX7_15 dX7_readNumber_114 rfl rfl rfl hx ?_
              refine v_iconst (pc := 117) (v := nI 0) F dX7_readNumber_117 (by decide) ?_
              refine v_ireturn (pc := 118) F dX7_readNumber_118 (rfl) ?_
              refine NBP.no ?_ rfl (by rw [hf]; exact j_pI_at) ((hI.1.mono (fun c j z => by omega)).pI (by omega))
              exact hcl.2.1 (by omega) (by omega) hle
      · rw [b2i_0] at hdg
        rw [Classical.not_not] at hdg
        refine v_aload_n (pc := 47) (i := 0) F dX7_readNumber_47 rfl rfl ?_
        refine v_getI (pc := 48) F fX7_22 dX7_readNumber_48 rfl hx ?_
        refine v_topE (y := nI (f + k)) (hI.2.1) ?_
        refine v_iload_n (pc := 51) (i := 2) F dX7_readNumber_51 rfl rfl ?_
        refine v_isub (pc := 52) F dX7_readNumber_52 ?_
        refine v_topE (pk_sub (by omega)) ?_
        refine v_iconst (pc := 53) (v := nI 2) F dX7_readNumber_53 (by decide) ?_
        refine v_icmp_ge (pc := 54) (tgt := 75) F dX7_readNumber_54 (by decide) (fun h54 => ?_) (fun h54 => ?_)
        · rw [nI_leI (by omega) (by omega)] at h54
          refine v_aload_n (pc := 75) (i := 0) F dX7_readNumber_75 rfl rfl ?_
          refine v_dup (pc := 76) F dX7_readNumber_76 rfl ?_
          refine v_getI (pc := 77) F fX7_22 dX7_readNumber_77 rfl hx ?_
          refine v_topE (y := nI (f + k)) (hI.2.1) ?_
          refine v_iconst (pc := 80) (v := nI 1) F dX7_readNumber_80 (by decide) ?_
          refine v_iadd (pc := 81) F dX7_readNumber_81 ?_
          refine v_topE (nI_add _ _) ?_
          refine v_put (pc := 82) F fX7_22 dX7_readNumber_82 rfl rfl rfl hx ?_
          refine v_goto (pc := 85) (tgt := 21) F dX7_readNumber_85 (by decide) ?_
          have q := ih (by omega)
          rw [cvl_2 (by omega)] at q
          refine q _ ⟨hI.1.pI ⟨rfl, rfl⟩, j_pI_at, hI.2.2.1.trans (scan_s (by omega) hdg), fun i hi => ?_⟩
          rcases Nat.lt_succ_iff_lt_or_eq.mp hi with z | z
          · exact hI.2.2.2 i z
          · rw [z]; exact hdg
        · rw [nI_leI (by omega) (by omega)] at h54
          refine v_bipush (pc := 57) (v := nI 10) F dX7_readNumber_57 (by decide) ?_
          refine v_iload_n (pc := 59) (i := 3) F dX7_readNumber_59 rfl rfl ?_
          refine v_imul (pc := 60) F dX7_readNumber_60 ?_
          refine v_aload_n (pc := 61) (i := 0) F dX7_readNumber_61 rfl rfl ?_
          refine v_getR (pc := 62) (o := 1) F fX7_9 dX7_readNumber_62 rfl hx ?_
          refine v_topR (y := x + 1) rfl ?_
          refine v_aload_n (pc := 65) (i := 0) F dX7_readNumber_65 rfl rfl ?_
          refine v_getI (pc := 66) F fX7_22 dX7_readNumber_66 rfl hx ?_
          refine v_topE (y := nI (f + k)) (hI.2.1) ?_
          refine v_ialdN (pc := 69) (k0 := f + k) F dX7_readNumber_69 (lx7_0 hx) (rfl) (by omega) (by decide) ?_
          refine v_topE (y := (tp (f + k))) ((hI.1.1 _ _ (by omega)).trans (hb (f + k) (by omega))) ?_
          refine v_iadd (pc := 70) F dX7_readNumber_70 ?_
          refine v_bipush (pc := 71) (v := nI 48) F dX7_readNumber_71 (by decide) ?_
          refine v_isub (pc := 73) F dX7_readNumber_73 ?_
          refine v_istore_n (pc := 74) (lo' := [some (.ref _), some (.int _), some (.int _), some (.int _), _]) F dX7_readNumber_74 rfl rfl (Nat.le_of_ble_eq_true rfl) rfl ?_
          refine v_aload_n (pc := 75) (i := 0) F dX7_readNumber_75 rfl rfl ?_
          refine v_dup (pc := 76) F dX7_readNumber_76 rfl ?_
          refine v_getI (pc := 77) F fX7_22 dX7_readNumber_77 rfl hx ?_
          refine v_topE (y := nI (f + k)) (hI.2.1) ?_
          refine v_iconst (pc := 80) (v := nI 1) F dX7_readNumber_80 (by decide) ?_
          refine v_iadd (pc := 81) F dX7_readNumber_81 ?_
          refine v_topE (nI_add _ _) ?_
          refine v_put (pc := 82) F fX7_22 dX7_readNumber_82 rfl rfl rfl hx ?_
          refine v_goto (pc := 85) (tgt := 21) F dX7_readNumber_85 (by decide) ?_
          have q := ih (by omega)
          rw [← cvl_0 (by omega)] at q
          refine q _ ⟨hI.1.pI ⟨rfl, rfl⟩, j_pI_at, hI.2.2.1.trans (scan_s (by omega) hdg), fun i hi => ?_⟩
          rcases Nat.lt_succ_iff_lt_or_eq.mp hi with z | z
          · exact hI.2.2.2 i z
          · rw [z]; exact hdg
  · skip
    exact absurd rfl h5_1

theorem tk_59 {tp : Nat → Int32} {t a f : Nat} (hf : tkF tp t a = f) (h : f < t) : (tp f = nI 59 → tkK tp t a = nI 59 ∧ tkT tp t a = f + 1) ∧ (¬ tp f = nI 59 → tkK tp t a ≠ nI 101 ∧ tkK tp t a ≠ nI 59) := by
  have h1 : ¬ tkF tp t a = t := by omega
  have a1 : ¬ isL (nI 59) = true := by decide
  have a2 : ¬ isD (nI 59) = true := by decide
  refine ⟨fun e => ⟨?_, ?_⟩, fun e => ?_⟩
  · unfold tkK; rw [if_neg h1, hf, e, if_neg a1, if_neg a2, if_pos rfl]
  · unfold tkT; rw [if_neg h1, hf, e, if_neg a1, if_neg a2]
  · unfold tkK
    rw [if_neg h1, hf]
    by_cases h2 : isL (tp f) = true
    · rw [if_pos h2]; exact ⟨by decide, by decide⟩
    · rw [if_neg h2]
      by_cases h3 : isD (tp f) = true
      · rw [if_pos h3]
        by_cases h4 : 2 < tkT tp t a - f
        · rw [if_pos h4]; exact ⟨by decide, by decide⟩
        · rw [if_neg h4]; exact ⟨by decide, by decide⟩
      · rw [if_neg h3, if_neg e]; exact ⟨by decide, by decide⟩

set_option maxRecDepth 100000 in
theorem c_X7_readSemicolon (x : Nat) (hx : j_ob ΛX x 7) (tp : Nat → Int32) (t a : Nat) (μ : j_M) (hb : ∀ j, j < t → μ.1 (x + 1) j = tp j) (ht : μ.1 x 1 = nI t) (ht2 : t ≤ 250) (ha : μ.1 x 2 = nI a) (hat : a ≤ t) (hfl : μ.1 x 3 = -1) : Ct yX7_readSemicolon cX7_readSemicolon 1 (some .boolean) 2 ΛX [.ref x] μ (pI fun r μ2 => Fm (PTP x) μ μ2 ∧ ((r = 0 ∧ tkK tp t a = nI 101 ∧ μ2.1 x 3 = -1) ∨ (r = 0 ∧ tkK tp t a ≠ nI 101 ∧ tkK tp t a ≠ nI 59 ∧ μ2.1 x 3 = nI (tkF tp t a)) ∨ (r = 1 ∧ tkK tp t a = nI 59 ∧ μ2.1 x 3 = -1 ∧ μ2.1 x 2 = nI (tkT tp t a)))) := by
  refine Ct.go (lo := [some (.ref x)]) (by decide) (Nat.le_of_ble_eq_true rfl) rfl rfl (fun X F => ?_)
  have F : Fx X cX7_readSemicolon RX7 2 (some .boolean) ΛX := F
  refine v_aload_n (pc := 0) (i := 0) F dX7_readSemicolon_0 rfl rfl ?_
  refine v_callVV (pc := 1) (As := []) (rest := []) (c := 7) F mX7_skipBlanks kX7_33 im_X7_skipBlanks se_X7_skipBlanks dX7_readSemicolon_1 rfl rfl (by decide) (c_X7_skipBlanks x hx tp t a _ hb ht ht2 ha hat) (by decide) rfl rfl (Nat.le_of_ble_eq_true rfl) hx (fun μ1 hp1 => ?_)
  obtain ⟨f, hf⟩ : ∃ f, tkF tp t a = f := ⟨_, rfl⟩
  have hfle := tkF_le (t := tp) hat
  rw [hf] at hfle
  have hsk := hp1
  rw [hf] at hsk
  refine v_aload_n (pc := 4) (i := 0) F dX7_readSemicolon_4 rfl rfl ?_
  refine v_getI (pc := 5) F fX7_22 dX7_readSemicolon_5 rfl hx ?_
  refine v_topE (y := nI f) (hsk.2) ?_
  refine v_aload_n (pc := 8) (i := 0) F dX7_readSemicolon_8 rfl rfl ?_
  refine v_getI (pc := 9) F fX7_19 dX7_readSemicolon_9 rfl hx ?_
  refine v_topE (y := nI t) ((hsk.1.1 _ _ (by omega)).trans (ht)) ?_
  refine v_icmp_lt (pc := 12) (tgt := 17) F dX7_readSemicolon_12 (by decide) (fun h12 => ?_) (fun h12 => ?_)
  · rw [nI_ltI (by omega) (by omega)] at h12
    have h59 := tk_59 hf (by omega)
    refine v_aload_n (pc := 17) (i := 0) F dX7_readSemicolon_17 rfl rfl ?_
    refine v_getR (pc := 18) (o := 1) F fX7_9 dX7_readSemicolon_18 rfl hx ?_
    refine v_topR (y := x + 1) rfl ?_
    refine v_aload_n (pc := 21) (i := 0) F dX7_readSemicolon_21 rfl rfl ?_
    refine v_getI (pc := 22) F fX7_22 dX7_readSemicolon_22 rfl hx ?_
    refine v_topE (y := nI f) (hsk.2) ?_
    refine v_ialdN (pc := 25) (k0 := f) F dX7_readSemicolon_25 (lx7_0 hx) (rfl) (by omega) (by decide) ?_
    refine v_topE (y := (tp f)) ((hsk.1.1 _ _ (by omega)).trans (hb f (by omega))) ?_
    refine v_bipush (pc := 26) (v := nI 59) F dX7_readSemicolon_26 (by decide) ?_
    refine v_icmp_eq (pc := 28) (tgt := 41) F dX7_readSemicolon_28 (by decide) (fun hs => ?_) (fun hs => ?_)
    · skip
      refine v_aload_n (pc := 41) (i := 0) F dX7_readSemicolon_41 rfl rfl ?_
      refine v_dup (pc := 42) F dX7_readSemicolon_42 rfl ?_
      refine v_getI (pc := 43) F fX7_22 dX7_readSemicolon_43 rfl hx ?_
      refine v_topE (y := nI f) (hsk.2) ?_
      refine v_iconst (pc := 46) (v := nI 1) F dX7_readSemicolon_46 (by decide) ?_
      refine v_iadd (pc := 47) F dX7_readSemicolon_47 ?_
      refine v_topE (nI_add _ _) ?_
      refine v_put (pc := 48) F fX7_22 dX7_readSemicolon_48 rfl rfl rfl hx ?_
      refine v_iconst (pc := 51) (v := nI 1) F dX7_readSemicolon_51 (by decide) ?_
      refine v_ireturn (pc := 52) F dX7_readSemicolon_52 (rfl) ?_
      refine ⟨(hsk.1.mono (fun c j z => by omega)).pI (by omega), Or.inr (Or.inr ⟨rfl, (h59.1 hs).1, (j_pI_off (by omega)).trans ((hsk.1.1 _ _ (by omega)).trans hfl), by rw [(h59.1 hs).2]; exact j_pI_at⟩)⟩
    · skip
      refine v_aload_n (pc := 31) (i := 0) F dX7_readSemicolon_31 rfl rfl ?_
      refine v_aload_n (pc := 32) (i := 0) F dX7_readSemicolon_32 rfl rfl ?_
      refine v_getI (pc := 33) F fX7_22 dX7_readSemicolon_33 rfl hx ?_
      refine v_topE (y := nI f) (hsk.2) ?_
      refine v_put (pc := 36) F fX7_15 dX7_readSemicolon_36 rfl rfl rfl hx ?_
      refine v_iconst (pc := 39) (v := nI 0) F dX7_readSemicolon_39 (by decide) ?_
      refine v_ireturn (pc := 40) F dX7_readSemicolon_40 (rfl) ?_
      refine ⟨(hsk.1.mono (fun c j z => by omega)).pI (by omega), Or.inr (Or.inl ⟨rfl, (h59.2 hs).1, (h59.2 hs).2, by rw [hf]; exact j_pI_at⟩)⟩
  · rw [nI_ltI (by omega) (by omega)] at h12
    refine v_iconst (pc := 15) (v := nI 0) F dX7_readSemicolon_15 (by decide) ?_
    refine v_ireturn (pc := 16) F dX7_readSemicolon_16 (rfl) ?_
    refine ⟨hsk.1.mono (fun c j z => by omega), Or.inl ⟨rfl, ?_, (hsk.1.1 _ _ (by omega)).trans hfl⟩⟩
    unfold tkK
    rw [if_pos (by omega)]
