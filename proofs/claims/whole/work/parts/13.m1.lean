/-! the reference's methods: leaves -/
theorem j_n0 : nI 0 = 0 := rfl
theorem j_n1 : nI 1 = 1 := rfl
theorem j_n2 : nI 2 = 2 := rfl
theorem j_n3 : nI 3 = 3 := rfl
theorem j_n4 : nI 4 = 4 := rfl
def inQ (n : Nat) (l : Int32) : Bool := decide (0 ≤ l) && decide (l < nI n)
theorem inQ_def {n : Nat} {l : Int32} : inQ n l = true ↔ 0 ≤ l ∧ l < nI n := by simp [inQ]
theorem inR_iff {n : Nat} {l : Int32} (hn : n < 2 ^ 31) : inQ n l = true ↔ ∃ k, k < n ∧ l = nI k := by
  rw [inQ_def]
  refine ⟨fun h => ?_, fun ⟨k, h1, h2⟩ => ?_⟩
  · obtain ⟨j, h1, h2⟩ := nI_of (Int32.not_lt.mpr h.1)
    subst h2
    exact ⟨j, (nI_ltI h1 hn).mp h.2, rfl⟩
  · subst h2
    exact ⟨nI_pos' (by omega), (nI_ltI (by omega) hn).mpr h1⟩
theorem inR_of {n : Nat} {l : Int32} (hn : n < 2 ^ 31) (h : inQ n l = true) : ∃ k, k < n ∧ l = nI k := (inR_iff hn).mp h
theorem j_wi {N M : Nat} {v : Int32} (hM : N + 1 = M) (hN : M < 2 ^ 31) : (nI 0 ≤ v ∧ v ≤ nI N) = (inQ M v = true) := by
  subst hM
  rw [propext inQ_def]
  refine propext ⟨fun ⟨h1, h2⟩ => ?_, fun ⟨h1, h2⟩ => ?_⟩
  · obtain ⟨j, q1, q2⟩ := nI_of (Int32.not_lt.mpr h1)
    subst q2
    exact ⟨h1, (nI_ltI q1 hN).mpr (Nat.lt_succ_of_le ((nI_leI q1 (by omega)).mp h2))⟩
  · obtain ⟨j, q1, q2⟩ := nI_of (Int32.not_lt.mpr h1)
    subst q2
    exact ⟨h1, (nI_leI q1 (by omega)).mpr (Nat.le_of_lt_succ ((nI_ltI q1 hN).mp h2))⟩
theorem b2i_congr {p q : Prop} [Decidable p] [Decidable q] (h : p = q) : b2i p = b2i q := by
  unfold b2i
  simp [h]
theorem b2i_nar (p : Prop) [Decidable p] : narrow .boolean (.int (b2i p)) = .int (b2i p) := by
  unfold b2i
  split <;> rfl
theorem b2i_nr {p : Prop} [Decidable p] : narrow .boolean (.int (b2i p)) = .int (b2i p) := b2i_nar p
theorem tI' {x c : Int32} (h : ¬ x = c) : x.toInt ≠ c.toInt := fun q => h (Int32.toInt_inj.mp q)
theorem j_fx {f g : Int32 → j_M → Prop} (h : ∀ r μ, f r μ → g r μ) : ∀ r μ, pI f r μ → pI g r μ := fun r μ ⟨x, h1, h2⟩ => ⟨x, h1, h x μ h2⟩

set_option maxRecDepth 100000 in
theorem c_X10_within (v lo hi : Int32) (μ : j_M) : Ct yX10_within cX10_within 3 (some .boolean) 0 ΛM [.int v, .int lo, .int hi] μ (pI fun r μ2 => r = (b2i (lo ≤ v ∧ v ≤ hi)) ∧ μ2 = μ) := by
  refine Ct.go (lo := [some (.int v), some (.int lo), some (.int hi)]) (by decide) (Nat.le_of_ble_eq_true rfl) rfl rfl (fun X F => ?_)
  have F : Fx X cX10_within RX10 0 (some .boolean) ΛM := F
  refine v_iload_n (pc := 0) (i := 0) F dX10_within_0 rfl rfl ?_
  refine v_iload_n (pc := 1) (i := 1) F dX10_within_1 rfl rfl ?_
  refine v_icmp_lt (pc := 2) (tgt := 14) F dX10_within_2 (by decide) (fun h2_1 => ?_) (fun h2_1 => ?_)
  · skip
    refine v_iconst (pc := 14) (v := nI 0) F dX10_within_14 (by decide) ?_
    refine v_ireturn (pc := 15) F dX10_within_15 (rfl) ?_
    refine ⟨?_, rfl⟩
    simp only [j_n0, j_n1, b2i] at *
    grind
  · skip
    refine v_iload_n (pc := 5) (i := 0) F dX10_within_5 rfl rfl ?_
    refine v_iload_n (pc := 6) (i := 2) F dX10_within_6 rfl rfl ?_
    refine v_icmp_gt (pc := 7) (tgt := 14) F dX10_within_7 (by decide) (fun h7_2 => ?_) (fun h7_2 => ?_)
    · skip
      refine v_iconst (pc := 14) (v := nI 0) F dX10_within_14 (by decide) ?_
      refine v_ireturn (pc := 15) F dX10_within_15 (rfl) ?_
      refine ⟨?_, rfl⟩
      simp only [j_n0, j_n1, b2i] at *
      grind
    · skip
      refine v_iconst (pc := 10) (v := nI 1) F dX10_within_10 (by decide) ?_
      refine v_goto (pc := 11) (tgt := 15) F dX10_within_11 (by decide) ?_
      refine v_ireturn (pc := 15) F dX10_within_15 (rfl) ?_
      refine ⟨?_, rfl⟩
      simp only [j_n0, j_n1, b2i] at *
      grind

theorem c_X10_withinR (v : Int32) (N M : Nat) (hM : N + 1 = M) (hN : M < 2 ^ 31) (μ : j_M) : Ct yX10_within cX10_within 3 (some .boolean) 0 ΛM [.int v, .int (nI 0), .int (nI N)] μ (pI fun r μ2 => r = b2i (inQ M v = true) ∧ μ2 = μ) := (c_X10_within v (nI 0) (nI N) μ).weaken (j_fx (fun r μ2 h => ⟨h.1.trans (b2i_congr (j_wi hM hN)), h.2⟩))

def inM (v : Int32) : Bool := v == -1 || inQ 8 v
theorem j_wm {v : Int32} : ((-1) ≤ v ∧ v ≤ nI 7) = (inM v = true) := by
  have e : (nI 0 ≤ v ∧ v ≤ nI 7) = (inQ 8 v = true) := j_wi rfl (by decide)
  have h7 : nI 7 = 7 := rfl
  have h0 : nI 0 = 0 := rfl
  simp only [inM, Bool.or_eq_true, beq_iff_eq, ← e, h7, h0]
  refine propext ⟨fun ⟨h1, h2⟩ => ?_, fun h => ?_⟩
  · by_cases q : v = -1
    · exact Or.inl q
    · refine Or.inr ⟨?_, h2⟩
      have a := Int32.le_iff_toInt_le.mp h1
      have b := tI' q
      rw [Int32.le_iff_toInt_le]
      have c1 : (-1 : Int32).toInt = -1 := by decide
      have c2 : (0 : Int32).toInt = 0 := by decide
      omega
  · rcases h with h | h
    · subst h; decide
    · exact ⟨Int32.le_trans (by decide) h.1, h.2⟩
def inB (lo hi : Nat) (v : Int32) : Bool := decide (nI lo ≤ v) && decide (v ≤ nI hi)
theorem inB_def {lo hi : Nat} {v : Int32} : inB lo hi v = true ↔ nI lo ≤ v ∧ v ≤ nI hi := by simp [inB]
theorem inB_of {lo hi : Nat} {v : Int32} (h1 : hi < 2 ^ 31) (h2 : lo < 2 ^ 31) (h : inB lo hi v = true) : ∃ k, lo ≤ k ∧ k ≤ hi ∧ v = nI k := by
  obtain ⟨a, b⟩ := inB_def.mp h
  obtain ⟨k, q1, q2⟩ := nI_of (x := v) (Int32.not_lt.mpr (Int32.le_trans (nI_pos' h2) a))
  subst q2
  exact ⟨k, (nI_leI h2 q1).mp a, (nI_leI q1 h1).mp b, rfl⟩
theorem c_X10_withinM (v : Int32) (μ : j_M) : Ct yX10_within cX10_within 3 (some .boolean) 0 ΛM [.int v, .int (-1), .int (nI 7)] μ (pI fun r μ2 => r = b2i (inM v = true) ∧ μ2 = μ) := (c_X10_within v (-1) (nI 7) μ).weaken (j_fx (fun r μ2 h => ⟨h.1.trans (b2i_congr j_wm), h.2⟩))
theorem c_X10_withinB (v : Int32) (lo hi : Nat) (μ : j_M) : Ct yX10_within cX10_within 3 (some .boolean) 0 ΛM [.int v, .int (nI lo), .int (nI hi)] μ (pI fun r μ2 => r = b2i (inB lo hi v = true) ∧ μ2 = μ) := (c_X10_within v (nI lo) (nI hi) μ).weaken (j_fx (fun r μ2 h => ⟨h.1.trans (b2i_congr (propext inB_def.symm)), h.2⟩))

set_option maxRecDepth 100000 in
theorem c_X10_in (b i : Int32) (μ : j_M) : Ct yX10_in cX10_in 2 (some .boolean) 0 ΛM [.int b, .int i] μ (pI fun r μ2 => r = (b2i ((b >>> (i &&& 31)) &&& 1 = 1)) ∧ μ2 = μ) := by
  refine Ct.go (lo := [some (.int b), some (.int i)]) (by decide) (Nat.le_of_ble_eq_true rfl) rfl rfl (fun X F => ?_)
  have F : Fx X cX10_in RX10 0 (some .boolean) ΛM := F
  refine v_iload_n (pc := 0) (i := 0) F dX10_in_0 rfl rfl ?_
  refine v_iload_n (pc := 1) (i := 1) F dX10_in_1 rfl rfl ?_
  refine v_ishr (pc := 2) F dX10_in_2 ?_
  refine v_iconst (pc := 3) (v := nI 1) F dX10_in_3 (by decide) ?_
  refine v_iand (pc := 4) F dX10_in_4 ?_
  refine v_iconst (pc := 5) (v := nI 1) F dX10_in_5 (by decide) ?_
  refine v_icmp_ne (pc := 6) (tgt := 13) F dX10_in_6 (by decide) (fun h6_1 => ?_) (fun h6_1 => ?_)
  · skip
    refine v_iconst (pc := 13) (v := nI 0) F dX10_in_13 (by decide) ?_
    refine v_ireturn (pc := 14) F dX10_in_14 (rfl) ?_
    refine ⟨?_, rfl⟩
    simp only [j_n0, j_n1, b2i] at *
    grind
  · skip
    refine v_iconst (pc := 9) (v := nI 1) F dX10_in_9 (by decide) ?_
    refine v_goto (pc := 10) (tgt := 14) F dX10_in_10 (by decide) ?_
    refine v_ireturn (pc := 14) F dX10_in_14 (rfl) ?_
    refine ⟨?_, rfl⟩
    simp only [j_n0, j_n1, b2i] at *
    grind

theorem c_X10_inN (b : Int32) (k : Nat) (hk : k < 32) (μ : j_M) : Ct yX10_in cX10_in 2 (some .boolean) 0 ΛM [.int b, .int (nI k)] μ (pI fun r μ2 => r = b2i (tb b k = true) ∧ μ2 = μ) := (c_X10_in b (nI k) μ).weaken (j_fx (fun r μ2 h => ⟨h.1.trans (b2i_congr (tb_in hk b)), h.2⟩))

set_option maxRecDepth 100000 in
theorem c_X10_isPlace (v : Int32) (μ : j_M) : Ct yX10_isPlace cX10_isPlace 1 (some .boolean) 1 ΛM [.int v] μ (pI fun r μ2 => r = (b2i (inQ 12 v = true)) ∧ μ2 = μ) := by
  refine Ct.go (lo := [some (.int v)]) (by decide) (Nat.le_of_ble_eq_true rfl) rfl rfl (fun X F => ?_)
  have F : Fx X cX10_isPlace RX10 1 (some .boolean) ΛM := F
  refine v_iload_n (pc := 0) (i := 0) F dX10_isPlace_0 rfl rfl ?_
  refine v_iconst (pc := 1) (v := nI 0) F dX10_isPlace_1 (by decide) ?_
  refine v_bipush (pc := 2) (v := nI 11) F dX10_isPlace_2 (by decide) ?_
  refine v_callSI (pc := 4) (As := [_, _, _]) (rest := []) F mX10_within kX10_85 sm_X10_within dX10_isPlace_4 (c_X10_withinR _ 11 12 rfl (by decide) _) (by decide) rfl rfl (Nat.le_of_ble_eq_true rfl) (fun x1 μ1 hp1 => ?_)
  rw [hp1.1, hp1.2]
  refine v_ireturn (pc := 7) F dX10_isPlace_7 (b2i_nr) ?_
  exact ⟨rfl, rfl⟩

set_option maxRecDepth 100000 in
theorem c_X10_isSort (v : Int32) (μ : j_M) : Ct yX10_isSort cX10_isSort 1 (some .boolean) 1 ΛM [.int v] μ (pI fun r μ2 => r = (b2i (inQ 8 v = true)) ∧ μ2 = μ) := by
  refine Ct.go (lo := [some (.int v)]) (by decide) (Nat.le_of_ble_eq_true rfl) rfl rfl (fun X F => ?_)
  have F : Fx X cX10_isSort RX10 1 (some .boolean) ΛM := F
  refine v_iload_n (pc := 0) (i := 0) F dX10_isSort_0 rfl rfl ?_
  refine v_iconst (pc := 1) (v := nI 0) F dX10_isSort_1 (by decide) ?_
  refine v_bipush (pc := 2) (v := nI 7) F dX10_isSort_2 (by decide) ?_
  refine v_callSI (pc := 4) (As := [_, _, _]) (rest := []) F mX10_within kX10_85 sm_X10_within dX10_isSort_4 (c_X10_withinR _ 7 8 rfl (by decide) _) (by decide) rfl rfl (Nat.le_of_ble_eq_true rfl) (fun x1 μ1 hp1 => ?_)
  rw [hp1.1, hp1.2]
  refine v_ireturn (pc := 7) F dX10_isSort_7 (b2i_nr) ?_
  exact ⟨rfl, rfl⟩

set_option maxRecDepth 100000 in
theorem c_X10_arePlaces (v : Int32) (μ : j_M) : Ct yX10_arePlaces cX10_arePlaces 1 (some .boolean) 1 ΛM [.int v] μ (pI fun r μ2 => r = (b2i (inQ 4096 v = true)) ∧ μ2 = μ) := by
  refine Ct.go (lo := [some (.int v)]) (by decide) (Nat.le_of_ble_eq_true rfl) rfl rfl (fun X F => ?_)
  have F : Fx X cX10_arePlaces RX10 1 (some .boolean) ΛM := F
  refine v_iload_n (pc := 0) (i := 0) F dX10_arePlaces_0 rfl rfl ?_
  refine v_iconst (pc := 1) (v := nI 0) F dX10_arePlaces_1 (by decide) ?_
  refine v_sipush (pc := 2) (v := nI 4095) F dX10_arePlaces_2 (by decide) ?_
  refine v_callSI (pc := 5) (As := [_, _, _]) (rest := []) F mX10_within kX10_85 sm_X10_within dX10_arePlaces_5 (c_X10_withinR _ 4095 4096 rfl (by decide) _) (by decide) rfl rfl (Nat.le_of_ble_eq_true rfl) (fun x1 μ1 hp1 => ?_)
  rw [hp1.1, hp1.2]
  refine v_ireturn (pc := 8) F dX10_arePlaces_8 (b2i_nr) ?_
  exact ⟨rfl, rfl⟩

set_option maxRecDepth 100000 in
theorem c_X10_isShelf (v : Int32) (μ : j_M) : Ct yX10_isShelf cX10_isShelf 1 (some .boolean) 1 ΛM [.int v] μ (pI fun r μ2 => r = (b2i (inQ 8 v = true)) ∧ μ2 = μ) := by
  refine Ct.go (lo := [some (.int v)]) (by decide) (Nat.le_of_ble_eq_true rfl) rfl rfl (fun X F => ?_)
  have F : Fx X cX10_isShelf RX10 1 (some .boolean) ΛM := F
  refine v_iload_n (pc := 0) (i := 0) F dX10_isShelf_0 rfl rfl ?_
  refine v_iconst (pc := 1) (v := nI 0) F dX10_isShelf_1 (by decide) ?_
  refine v_bipush (pc := 2) (v := nI 7) F dX10_isShelf_2 (by decide) ?_
  refine v_callSI (pc := 4) (As := [_, _, _]) (rest := []) F mX10_within kX10_85 sm_X10_within dX10_isShelf_4 (c_X10_withinR _ 7 8 rfl (by decide) _) (by decide) rfl rfl (Nat.le_of_ble_eq_true rfl) (fun x1 μ1 hp1 => ?_)
  rw [hp1.1, hp1.2]
  refine v_ireturn (pc := 7) F dX10_isShelf_7 (b2i_nr) ?_
  exact ⟨rfl, rfl⟩

theorem j_pred {n : Nat} {v : Int32} (hn : n ≤ 8) : (nI 0 ≤ v ∧ v ≤ nI n - nI 1) = (inQ n v = true) := by
  rcases Nat.eq_zero_or_pos n with h | h
  · subst h
    rw [propext inQ_def]
    refine propext ⟨fun ⟨h1, h2⟩ => ?_, fun ⟨h1, h2⟩ => ?_⟩
    · exact absurd (Int32.le_trans h1 h2) (by decide)
    · exact absurd (Int32.lt_of_le_of_lt h1 h2) (by decide)
  · rw [pk_sub h]
    exact j_wi (by omega) (by omega)
theorem j_pow {n : Nat} (hn : n ≤ 8) : ((1 : Int32) <<< (nI n &&& 31)) = nI (2 ^ n) := by
  have : ∀ n, n < 9 → ((1 : Int32) <<< (nI n &&& 31)) = nI (2 ^ n) := by decide +kernel
  exact this n (by omega)
theorem j_pw {n : Nat} (hn : n ≤ 8) : 2 ^ n ≤ 256 ∧ 0 < 2 ^ n := by
  have : ∀ n, n < 9 → 2 ^ n ≤ 256 ∧ 0 < 2 ^ n := by decide +kernel
  exact this n (by omega)
theorem j_set1 {n : Nat} {v : Int32} (hn : n ≤ 8) : (nI 0 ≤ v ∧ v ≤ (nI 1 <<< (nI n &&& 31)) - nI 1) = (inQ (2 ^ n) v = true) := by
  have h := j_pw hn
  rw [j_n1, j_pow hn, ← j_n1, pk_sub h.2]
  exact j_wi (by omega) (by omega)

set_option maxRecDepth 100000 in
theorem c_X10_isLooker (v : Int32) (n : Nat) (μ : j_M) (hn : μ.1 0 1 = nI n) (hn8 : n ≤ 8) : Ct yX10_isLooker cX10_isLooker 2 (some .boolean) 1 ΛM [.ref 0, .int v] μ (pI fun r μ2 => r = (b2i (inQ n v = true)) ∧ μ2 = μ) := by
  refine Ct.go (lo := [some (.ref 0), some (.int v)]) (by decide) (Nat.le_of_ble_eq_true rfl) rfl rfl (fun X F => ?_)
  have F : Fx X cX10_isLooker RX10 1 (some .boolean) ΛM := F
  refine v_iload_n (pc := 0) (i := 1) F dX10_isLooker_0 rfl rfl ?_
  refine v_iconst (pc := 1) (v := nI 0) F dX10_isLooker_1 (by decide) ?_
  refine v_aload_n (pc := 2) (i := 0) F dX10_isLooker_2 rfl rfl ?_
  refine v_getI (pc := 3) F fX10_89 dX10_isLooker_3 rfl lm0 ?_
  refine v_topE (hn) ?_
  refine v_iconst (pc := 6) (v := nI 1) F dX10_isLooker_6 (by decide) ?_
  refine v_isub (pc := 7) F dX10_isLooker_7 ?_
  refine v_callSI (pc := 8) (As := [_, _, _]) (rest := []) F mX10_within kX10_85 sm_X10_within dX10_isLooker_8 (c_X10_within _ _ _ _) (by decide) rfl rfl (Nat.le_of_ble_eq_true rfl) (fun x1 μ1 hp1 => ?_)
  rw [hp1.1, hp1.2, b2i_congr (j_pred hn8)]
  refine v_ireturn (pc := 11) F dX10_isLooker_11 (b2i_nr) ?_
  exact ⟨rfl, rfl⟩

set_option maxRecDepth 100000 in
theorem c_X10_isSet (v : Int32) (n : Nat) (μ : j_M) (hn : μ.1 0 1 = nI n) (hn8 : n ≤ 8) : Ct yX10_isSet cX10_isSet 2 (some .boolean) 1 ΛM [.ref 0, .int v] μ (pI fun r μ2 => r = (b2i (inQ (2 ^ n) v = true)) ∧ μ2 = μ) := by
  refine Ct.go (lo := [some (.ref 0), some (.int v)]) (by decide) (Nat.le_of_ble_eq_true rfl) rfl rfl (fun X F => ?_)
  have F : Fx X cX10_isSet RX10 1 (some .boolean) ΛM := F
  refine v_iload_n (pc := 0) (i := 1) F dX10_isSet_0 rfl rfl ?_
  refine v_iconst (pc := 1) (v := nI 0) F dX10_isSet_1 (by decide) ?_
  refine v_iconst (pc := 2) (v := nI 1) F dX10_isSet_2 (by decide) ?_
  refine v_aload_n (pc := 3) (i := 0) F dX10_isSet_3 rfl rfl ?_
  refine v_getI (pc := 4) F fX10_89 dX10_isSet_4 rfl lm0 ?_
  refine v_topE (hn) ?_
  refine v_ishl (pc := 7) F dX10_isSet_7 ?_
  refine v_iconst (pc := 8) (v := nI 1) F dX10_isSet_8 (by decide) ?_
  refine v_isub (pc := 9) F dX10_isSet_9 ?_
  refine v_callSI (pc := 10) (As := [_, _, _]) (rest := []) F mX10_within kX10_85 sm_X10_within dX10_isSet_10 (c_X10_within _ _ _ _) (by decide) rfl rfl (Nat.le_of_ble_eq_true rfl) (fun x1 μ1 hp1 => ?_)
  rw [hp1.1, hp1.2, b2i_congr (j_set1 hn8)]
  refine v_ireturn (pc := 13) F dX10_isSet_13 (b2i_nr) ?_
  exact ⟨rfl, rfl⟩

theorem likB_b (a lk s : Int32) : b2i (likB a lk s = true) = b2i (¬ s = -1 ∧ (s = a ∨ (lk >>> (s &&& 31)) &&& 1 = 1)) := b2i_congr (propext likB_iff)

set_option maxRecDepth 100000 in
theorem c_X10_no (c : Int32) (k : Nat) (hk : k ≤ 6) (hc : -c = nI k) (μ : j_M) : Ct yX10_no cX10_no 2 (some .int) 0 ΛM [.ref 0, .int c] μ (pI fun r μ2 => r = c ∧ μ2 = j_pI μ 13 k (μ.1 13 k + 1)) := by
  refine Ct.go (lo := [some (.ref 0), some (.int c)]) (by decide) (Nat.le_of_ble_eq_true rfl) rfl rfl (fun X F => ?_)
  have F : Fx X cX10_no RX10 0 (some .int) ΛM := F
  refine v_aload_n (pc := 0) (i := 0) F dX10_no_0 rfl rfl ?_
  refine v_getR (pc := 1) (o := 13) F fX10_47 dX10_no_1 rfl lm0 ?_
  refine v_topR (y := 13) rfl ?_
  refine v_iload_n (pc := 4) (i := 1) F dX10_no_4 rfl rfl ?_
  refine v_ineg (pc := 5) F dX10_no_5 ?_
  refine v_dup2 (pc := 6) F dX10_no_6 rfl rfl ?_
  refine v_ialdN (pc := 7) (k0 := k) F dX10_no_7 (lm10_20 lm0) (hc) (by omega) (by decide) ?_
  refine v_iconst (pc := 8) (v := nI 1) F dX10_no_8 (by decide) ?_
  refine v_iadd (pc := 9) F dX10_no_9 ?_
  refine v_iastN (pc := 10) (k0 := k) F dX10_no_10 (lm10_20 lm0) (hc) (by omega) (by decide) ?_
  refine v_iload_n (pc := 11) (i := 1) F dX10_no_11 rfl rfl ?_
  refine v_ireturn (pc := 12) F dX10_no_12 (rfl) ?_
  exact ⟨rfl, rfl⟩

set_option maxRecDepth 100000 in
theorem c_X10_isRow (s : Nat) (hs : s < 8) (μ : j_M) : Ct yX10_isRow cX10_isRow 2 (some .boolean) 1 ΛM [.ref 0, .int (nI s)] μ (pI fun r μ2 => r = (b2i (inQ 5 (μ.1 10 s) = true)) ∧ μ2 = μ) := by
  refine Ct.go (lo := [some (.ref 0), some (.int (nI s))]) (by decide) (Nat.le_of_ble_eq_true rfl) rfl rfl (fun X F => ?_)
  have F : Fx X cX10_isRow RX10 1 (some .boolean) ΛM := F
  refine v_aload_n (pc := 0) (i := 0) F dX10_isRow_0 rfl rfl ?_
  refine v_getR (pc := 1) (o := 10) F fX10_37 dX10_isRow_1 rfl lm0 ?_
  refine v_topR (y := 10) rfl ?_
  refine v_iload_n (pc := 4) (i := 1) F dX10_isRow_4 rfl rfl ?_
  refine v_ialdN (pc := 5) (k0 := s) F dX10_isRow_5 (lm10_17 lm0) (rfl) (by omega) (by decide) ?_
  refine v_iconst (pc := 6) (v := nI 0) F dX10_isRow_6 (by decide) ?_
  refine v_iconst (pc := 7) (v := nI 4) F dX10_isRow_7 (by decide) ?_
  refine v_callSI (pc := 8) (As := [_, _, _]) (rest := []) F mX10_within kX10_85 sm_X10_within dX10_isRow_8 (c_X10_withinR _ 4 5 rfl (by decide) _) (by decide) rfl rfl (Nat.le_of_ble_eq_true rfl) (fun x1 μ1 hp1 => ?_)
  rw [hp1.1, hp1.2]
  refine v_ireturn (pc := 11) F dX10_isRow_11 (b2i_nr) ?_
  exact ⟨rfl, rfl⟩

set_option maxRecDepth 100000 in
theorem c_X10_noRow (s : Nat) (hs : s < 8) (μ : j_M) : Ct yX10_noRow cX10_noRow 2 (some .int) 0 ΛM [.ref 0, .int (nI s)] μ (pI fun r μ2 => r = (if nI 10 ≤ μ.1 10 s then -3 else if μ.1 10 s < 0 then -4 else 0) ∧ μ2 = μ) := by
  refine Ct.go (lo := [some (.ref 0), some (.int (nI s))]) (by decide) (Nat.le_of_ble_eq_true rfl) rfl rfl (fun X F => ?_)
  have F : Fx X cX10_noRow RX10 0 (some .int) ΛM := F
  refine v_aload_n (pc := 0) (i := 0) F dX10_noRow_0 rfl rfl ?_
  refine v_getR (pc := 1) (o := 10) F fX10_37 dX10_noRow_1 rfl lm0 ?_
  refine v_topR (y := 10) rfl ?_
  refine v_iload_n (pc := 4) (i := 1) F dX10_noRow_4 rfl rfl ?_
  refine v_ialdN (pc := 5) (k0 := s) F dX10_noRow_5 (lm10_17 lm0) (rfl) (by omega) (by decide) ?_
  refine v_bipush (pc := 6) (v := nI 10) F dX10_noRow_6 (by decide) ?_
  refine v_icmp_lt (pc := 8) (tgt := 16) F dX10_noRow_8 (by decide) (fun h8_1 => ?_) (fun h8_1 => ?_)
  · skip
    refine v_aload_n (pc := 16) (i := 0) F dX10_noRow_16 rfl rfl ?_
    refine v_getR (pc := 17) (o := 10) F fX10_37 dX10_noRow_17 rfl lm0 ?_
    refine v_topR (y := 10) rfl ?_
    refine v_iload_n (pc := 20) (i := 1) F dX10_noRow_20 rfl rfl ?_
    refine v_ialdN (pc := 21) (k0 := s) F dX10_noRow_21 (lm10_17 lm0) (rfl) (by omega) (by decide) ?_
    refine v_if_ge (pc := 22) (tgt := 30) F dX10_noRow_22 (by decide) (fun h22_2 => ?_) (fun h22_2 => ?_)
    · skip
      refine v_iconst (pc := 30) (v := nI 0) F dX10_noRow_30 (by decide) ?_
      refine v_ireturn (pc := 31) F dX10_noRow_31 (rfl) ?_
      refine ⟨?_, rfl⟩
      try simp only [j_n0] at *
      grind
    · skip
      refine v_bipush (pc := 25) (v := (-4)) F dX10_noRow_25 (by decide) ?_
      refine v_goto (pc := 27) (tgt := 31) F dX10_noRow_27 (by decide) ?_
      refine v_ireturn (pc := 31) F dX10_noRow_31 (rfl) ?_
      refine ⟨?_, rfl⟩
      try simp only [j_n0] at *
      grind
  · skip
    refine v_bipush (pc := 11) (v := (-3)) F dX10_noRow_11 (by decide) ?_
    refine v_goto (pc := 13) (tgt := 31) F dX10_noRow_13 (by decide) ?_
    refine v_ireturn (pc := 31) F dX10_noRow_31 (rfl) ?_
    refine ⟨?_, rfl⟩
    try simp only [j_n0] at *
    grind

set_option maxRecDepth 100000 in
theorem c_X10_isUnder (a b : Int32) (μ : j_M) : Ct yX10_isUnder cX10_isUnder 2 (some .boolean) 0 ΛM [.int a, .int b] μ (pI fun r μ2 => r = (b2i (b = 0 ∨ a = b ∨ (a = 3 ∧ b = 1) ∨ (a = 4 ∧ b = 2))) ∧ μ2 = μ) := by
  refine Ct.go (lo := [some (.int a), some (.int b)]) (by decide) (Nat.le_of_ble_eq_true rfl) rfl rfl (fun X F => ?_)
  have F : Fx X cX10_isUnder RX10 0 (some .boolean) ΛM := F
  refine v_iload_n (pc := 0) (i := 1) F dX10_isUnder_0 rfl rfl ?_
  refine v_if_eq (pc := 1) (tgt := 29) F dX10_isUnder_1 (by decide) (fun h1_1 => ?_) (fun h1_1 => ?_)
  · skip
    refine v_iconst (pc := 29) (v := nI 1) F dX10_isUnder_29 (by decide) ?_
    refine v_goto (pc := 30) (tgt := 34) F dX10_isUnder_30 (by decide) ?_
    refine v_ireturn (pc := 34) F dX10_isUnder_34 (rfl) ?_
    refine ⟨?_, rfl⟩
    simp only [b2i, j_n0, j_n1, j_n2, j_n3, j_n4] at *
    grind
  · skip
    refine v_iload_n (pc := 4) (i := 0) F dX10_isUnder_4 rfl rfl ?_
    refine v_iload_n (pc := 5) (i := 1) F dX10_isUnder_5 rfl rfl ?_
    refine v_icmp_eq (pc := 6) (tgt := 29) F dX10_isUnder_6 (by decide) (fun h6_2 => ?_) (fun h6_2 => ?_)
    · skip
      refine v_iconst (pc := 29) (v := nI 1) F dX10_isUnder_29 (by decide) ?_
      refine v_goto (pc := 30) (tgt := 34) F dX10_isUnder_30 (by decide) ?_
      refine v_ireturn (pc := 34) F dX10_isUnder_34 (rfl) ?_
      refine ⟨?_, rfl⟩
      simp only [b2i, j_n0, j_n1, j_n2, j_n3, j_n4] at *
      grind
    · skip
      refine v_iload_n (pc := 9) (i := 0) F dX10_isUnder_9 rfl rfl ?_
      refine v_iconst (pc := 10) (v := nI 3) F dX10_isUnder_10 (by decide) ?_
      refine v_icmp_ne (pc := 11) (tgt := 19) F dX10_isUnder_11 (by decide) (fun h11_3 => ?_) (fun h11_3 => ?_)
      · skip
        refine v_iload_n (pc := 19) (i := 0) F dX10_isUnder_19 rfl rfl ?_
        refine v_iconst (pc := 20) (v := nI 4) F dX10_isUnder_20 (by decide) ?_
        refine v_icmp_ne (pc := 21) (tgt := 33) F dX10_isUnder_21 (by decide) (fun h21_4 => ?_) (fun h21_4 => ?_)
        · skip
          refine v_iconst (pc := 33) (v := nI 0) F dX10_isUnder_33 (by decide) ?_
          refine v_ireturn (pc := 34) F dX10_isUnder_34 (rfl) ?_
          refine ⟨?_, rfl⟩
          simp only [b2i, j_n0, j_n1, j_n2, j_n3, j_n4] at *
          grind
        · skip
          refine v_iload_n (pc := 24) (i := 1) F dX10_isUnder_24 rfl rfl ?_
          refine v_iconst (pc := 25) (v := nI 2) F dX10_isUnder_25 (by decide) ?_
          refine v_icmp_ne (pc := 26) (tgt := 33) F dX10_isUnder_26 (by decide) (fun h26_5 => ?_) (fun h26_5 => ?_)
          · skip
            refine v_iconst (pc := 33) (v := nI 0) F dX10_isUnder_33 (by decide) ?_
            refine v_ireturn (pc := 34) F dX10_isUnder_34 (rfl) ?_
            refine ⟨?_, rfl⟩
            simp only [b2i, j_n0, j_n1, j_n2, j_n3, j_n4] at *
            grind
          · skip
            refine v_iconst (pc := 29) (v := nI 1) F dX10_isUnder_29 (by decide) ?_
            refine v_goto (pc := 30) (tgt := 34) F dX10_isUnder_30 (by decide) ?_
            refine v_ireturn (pc := 34) F dX10_isUnder_34 (rfl) ?_
            refine ⟨?_, rfl⟩
            simp only [b2i, j_n0, j_n1, j_n2, j_n3, j_n4] at *
            grind
      · skip
        refine v_iload_n (pc := 14) (i := 1) F dX10_isUnder_14 rfl rfl ?_
        refine v_iconst (pc := 15) (v := nI 1) F dX10_isUnder_15 (by decide) ?_
        refine v_icmp_eq (pc := 16) (tgt := 29) F dX10_isUnder_16 (by decide) (fun h16_6 => ?_) (fun h16_6 => ?_)
        · skip
          refine v_iconst (pc := 29) (v := nI 1) F dX10_isUnder_29 (by decide) ?_
          refine v_goto (pc := 30) (tgt := 34) F dX10_isUnder_30 (by decide) ?_
          refine v_ireturn (pc := 34) F dX10_isUnder_34 (rfl) ?_
          refine ⟨?_, rfl⟩
          simp only [b2i, j_n0, j_n1, j_n2, j_n3, j_n4] at *
          grind
        · skip
          refine v_iload_n (pc := 19) (i := 0) F dX10_isUnder_19 rfl rfl ?_
          refine v_iconst (pc := 20) (v := nI 4) F dX10_isUnder_20 (by decide) ?_
          refine v_icmp_ne (pc := 21) (tgt := 33) F dX10_isUnder_21 (by decide) (fun h21_7 => ?_) (fun h21_7 => ?_)
          · skip
            refine v_iconst (pc := 33) (v := nI 0) F dX10_isUnder_33 (by decide) ?_
            refine v_ireturn (pc := 34) F dX10_isUnder_34 (rfl) ?_
            refine ⟨?_, rfl⟩
            simp only [b2i, j_n0, j_n1, j_n2, j_n3, j_n4] at *
            grind
          · skip
            refine v_iload_n (pc := 24) (i := 1) F dX10_isUnder_24 rfl rfl ?_
            refine v_iconst (pc := 25) (v := nI 2) F dX10_isUnder_25 (by decide) ?_
            refine v_icmp_ne (pc := 26) (tgt := 33) F dX10_isUnder_26 (by decide) (fun h26_8 => ?_) (fun h26_8 => ?_)
            · skip
              refine v_iconst (pc := 33) (v := nI 0) F dX10_isUnder_33 (by decide) ?_
              refine v_ireturn (pc := 34) F dX10_isUnder_34 (rfl) ?_
              refine ⟨?_, rfl⟩
              simp only [b2i, j_n0, j_n1, j_n2, j_n3, j_n4] at *
              grind
            · skip
              refine v_iconst (pc := 29) (v := nI 1) F dX10_isUnder_29 (by decide) ?_
              refine v_goto (pc := 30) (tgt := 34) F dX10_isUnder_30 (by decide) ?_
              refine v_ireturn (pc := 34) F dX10_isUnder_34 (rfl) ?_
              refine ⟨?_, rfl⟩
              simp only [b2i, j_n0, j_n1, j_n2, j_n3, j_n4] at *
              grind

set_option maxRecDepth 100000 in
theorem c_X10_isLetter (c : Int32) (μ : j_M) : Ct yX10_isLetter cX10_isLetter 1 (some .boolean) 0 ΛM [.int c] μ (pI fun r μ2 => r = (b2i (nI 97 ≤ c ∧ c ≤ nI 122)) ∧ μ2 = μ) := by
  refine Ct.go (lo := [some (.int c)]) (by decide) (Nat.le_of_ble_eq_true rfl) rfl rfl (fun X F => ?_)
  have F : Fx X cX10_isLetter RX10 0 (some .boolean) ΛM := F
  refine v_iload_n (pc := 0) (i := 0) F dX10_isLetter_0 rfl rfl ?_
  refine v_bipush (pc := 1) (v := nI 97) F dX10_isLetter_1 (by decide) ?_
  refine v_icmp_lt (pc := 3) (tgt := 16) F dX10_isLetter_3 (by decide) (fun h3_1 => ?_) (fun h3_1 => ?_)
  · skip
    refine v_iconst (pc := 16) (v := nI 0) F dX10_isLetter_16 (by decide) ?_
    refine v_ireturn (pc := 17) F dX10_isLetter_17 (rfl) ?_
    refine ⟨?_, rfl⟩
    simp only [j_n0, j_n1, b2i] at *
    grind
  · skip
    refine v_iload_n (pc := 6) (i := 0) F dX10_isLetter_6 rfl rfl ?_
    refine v_bipush (pc := 7) (v := nI 122) F dX10_isLetter_7 (by decide) ?_
    refine v_icmp_gt (pc := 9) (tgt := 16) F dX10_isLetter_9 (by decide) (fun h9_2 => ?_) (fun h9_2 => ?_)
    · skip
      refine v_iconst (pc := 16) (v := nI 0) F dX10_isLetter_16 (by decide) ?_
      refine v_ireturn (pc := 17) F dX10_isLetter_17 (rfl) ?_
      refine ⟨?_, rfl⟩
      simp only [j_n0, j_n1, b2i] at *
      grind
    · skip
      refine v_iconst (pc := 12) (v := nI 1) F dX10_isLetter_12 (by decide) ?_
      refine v_goto (pc := 13) (tgt := 17) F dX10_isLetter_13 (by decide) ?_
      refine v_ireturn (pc := 17) F dX10_isLetter_17 (rfl) ?_
      refine ⟨?_, rfl⟩
      simp only [j_n0, j_n1, b2i] at *
      grind

set_option maxRecDepth 100000 in
theorem c_X10_isDigit (c : Int32) (μ : j_M) : Ct yX10_isDigit cX10_isDigit 1 (some .boolean) 0 ΛM [.int c] μ (pI fun r μ2 => r = (b2i (nI 48 ≤ c ∧ c ≤ nI 57)) ∧ μ2 = μ) := by
  refine Ct.go (lo := [some (.int c)]) (by decide) (Nat.le_of_ble_eq_true rfl) rfl rfl (fun X F => ?_)
  have F : Fx X cX10_isDigit RX10 0 (some .boolean) ΛM := F
  refine v_iload_n (pc := 0) (i := 0) F dX10_isDigit_0 rfl rfl ?_
  refine v_bipush (pc := 1) (v := nI 48) F dX10_isDigit_1 (by decide) ?_
  refine v_icmp_lt (pc := 3) (tgt := 16) F dX10_isDigit_3 (by decide) (fun h3_1 => ?_) (fun h3_1 => ?_)
  · skip
    refine v_iconst (pc := 16) (v := nI 0) F dX10_isDigit_16 (by decide) ?_
    refine v_ireturn (pc := 17) F dX10_isDigit_17 (rfl) ?_
    refine ⟨?_, rfl⟩
    simp only [j_n0, j_n1, b2i] at *
    grind
  · skip
    refine v_iload_n (pc := 6) (i := 0) F dX10_isDigit_6 rfl rfl ?_
    refine v_bipush (pc := 7) (v := nI 57) F dX10_isDigit_7 (by decide) ?_
    refine v_icmp_gt (pc := 9) (tgt := 16) F dX10_isDigit_9 (by decide) (fun h9_2 => ?_) (fun h9_2 => ?_)
    · skip
      refine v_iconst (pc := 16) (v := nI 0) F dX10_isDigit_16 (by decide) ?_
      refine v_ireturn (pc := 17) F dX10_isDigit_17 (rfl) ?_
      refine ⟨?_, rfl⟩
      simp only [j_n0, j_n1, b2i] at *
      grind
    · skip
      refine v_iconst (pc := 12) (v := nI 1) F dX10_isDigit_12 (by decide) ?_
      refine v_goto (pc := 13) (tgt := 17) F dX10_isDigit_13 (by decide) ?_
      refine v_ireturn (pc := 17) F dX10_isDigit_17 (rfl) ?_
      refine ⟨?_, rfl⟩
      simp only [j_n0, j_n1, b2i] at *
      grind

set_option maxRecDepth 100000 in
theorem c_X10_doesLike (l : Nat) (hl : l < 8) (s : Int32) (μ : j_M) : Ct yX10_doesLike cX10_doesLike 3 (some .boolean) 1 ΛM [.ref 0, .int (nI l), .int s] μ (pI fun r μ2 => r = (b2i (likB (μ.1 3 l) (μ.1 5 l) s = true)) ∧ μ2 = μ) := by
  refine Ct.go (lo := [some (.ref 0), some (.int (nI l)), some (.int s)]) (by decide) (Nat.le_of_ble_eq_true rfl) rfl rfl (fun X F => ?_)
  have F : Fx X cX10_doesLike RX10 1 (some .boolean) ΛM := F
  refine v_iload_n (pc := 0) (i := 2) F dX10_doesLike_0 rfl rfl ?_
  refine v_iconst (pc := 1) (v := (-1)) F dX10_doesLike_1 (by decide) ?_
  refine v_icmp_eq (pc := 2) (tgt := 32) F dX10_doesLike_2 (by decide) (fun h2_1 => ?_) (fun h2_1 => ?_)
  · skip
    refine v_iconst (pc := 32) (v := nI 0) F dX10_doesLike_32 (by decide) ?_
    refine v_ireturn (pc := 33) F dX10_doesLike_33 (rfl) ?_
    refine ⟨?_, rfl⟩
    rw [likB_b]
    simp only [b2i, j_n0, j_n1] at *
    grind
  · skip
    refine v_iload_n (pc := 5) (i := 2) F dX10_doesLike_5 rfl rfl ?_
    refine v_aload_n (pc := 6) (i := 0) F dX10_doesLike_6 rfl rfl ?_
    refine v_getR (pc := 7) (o := 3) F fX10_16 dX10_doesLike_7 rfl lm0 ?_
    refine v_topR (y := 3) rfl ?_
    refine v_iload_n (pc := 10) (i := 1) F dX10_doesLike_10 rfl rfl ?_
    refine v_ialdN (pc := 11) (k0 := l) F dX10_doesLike_11 (lm10_3 lm0) (rfl) (by omega) (by decide) ?_
    refine v_icmp_eq (pc := 12) (tgt := 28) F dX10_doesLike_12 (by decide) (fun h12_2 => ?_) (fun h12_2 => ?_)
    · skip
      refine v_iconst (pc := 28) (v := nI 1) F dX10_doesLike_28 (by decide) ?_
      refine v_goto (pc := 29) (tgt := 33) F dX10_doesLike_29 (by decide) ?_
      refine v_ireturn (pc := 33) F dX10_doesLike_33 (rfl) ?_
      refine ⟨?_, rfl⟩
      rw [likB_b]
      simp only [b2i, j_n0, j_n1] at *
      grind
    · skip
      refine v_aload_n (pc := 15) (i := 0) F dX10_doesLike_15 rfl rfl ?_
      refine v_getR (pc := 16) (o := 5) F fX10_22 dX10_doesLike_16 rfl lm0 ?_
      refine v_topR (y := 5) rfl ?_
      refine v_iload_n (pc := 19) (i := 1) F dX10_doesLike_19 rfl rfl ?_
      refine v_ialdN (pc := 20) (k0 := l) F dX10_doesLike_20 (lm10_5 lm0) (rfl) (by omega) (by decide) ?_
      refine v_iload_n (pc := 21) (i := 2) F dX10_doesLike_21 rfl rfl ?_
      refine v_callSI (pc := 22) (As := [_, _]) (rest := []) F mX10_in kX10_194 sm_X10_in dX10_doesLike_22 (c_X10_in _ _ _) (by decide) rfl rfl (Nat.le_of_ble_eq_true rfl) (fun x3 μ3 hp3 => ?_)
      rw [hp3.1, hp3.2]
      refine v_if_eq (pc := 25) (tgt := 32) F dX10_doesLike_25 (by decide) (fun h25_4 => ?_) (fun h25_4 => ?_)
      · rw [b2i_0] at h25_4
        refine v_iconst (pc := 32) (v := nI 0) F dX10_doesLike_32 (by decide) ?_
        refine v_ireturn (pc := 33) F dX10_doesLike_33 (rfl) ?_
        refine ⟨?_, rfl⟩
        rw [likB_b]
        simp only [b2i, j_n0, j_n1] at *
        grind
      · rw [b2i_0] at h25_4
        rw [Classical.not_not] at h25_4
        refine v_iconst (pc := 28) (v := nI 1) F dX10_doesLike_28 (by decide) ?_
        refine v_goto (pc := 29) (tgt := 33) F dX10_doesLike_29 (by decide) ?_
        refine v_ireturn (pc := 33) F dX10_doesLike_33 (rfl) ?_
        refine ⟨?_, rfl⟩
        rw [likB_b]
        simp only [b2i, j_n0, j_n1] at *
        grind

set_option maxRecDepth 100000 in
theorem c_X10_manyOf (s : Int32) (μ : j_M) : Ct yX10_manyOf cX10_manyOf 4 (some .int) 0 ΛM [.ref 0, .int s] μ (pI fun r μ2 => r = (nI (cP (fun p => μ.1 16 p == s))) ∧ μ2 = μ) := by
  refine Ct.go (lo := [some (.ref 0), some (.int s), none, none]) (by decide) (Nat.le_of_ble_eq_true rfl) rfl rfl (fun X F => ?_)
  have F : Fx X cX10_manyOf RX10 0 (some .int) ΛM := F
  refine v_iconst (pc := 0) (v := nI 0) F dX10_manyOf_0 (by decide) ?_
  refine v_istore_n (pc := 1) (lo' := [some (.ref _), some (.int _), some (.int _), _]) F dX10_manyOf_1 rfl rfl (Nat.le_of_ble_eq_true rfl) rfl ?_
  refine v_iconst (pc := 2) (v := nI 0) F dX10_manyOf_2 (by decide) ?_
  refine v_istore_n (pc := 3) (lo' := [some (.ref _), some (.int _), some (.int _), some (.int _)]) F dX10_manyOf_3 rfl rfl (Nat.le_of_ble_eq_true rfl) rfl ?_
  refine j_up 12 (fun k => V X _ 4 [some (.ref 0), some (.int s), some (.int (nI (cK (fun p => μ.1 16 p == s) k))), some (.int (nI k))] [] μ) (fun k hk ih => ?_) 0 (Nat.zero_le _)
  refine v_iload_n (pc := 4) (i := 3) F dX10_manyOf_4 rfl rfl ?_
  refine v_bipush (pc := 5) (v := nI 12) F dX10_manyOf_5 (by decide) ?_
  refine v_icmp_ge (pc := 7) (tgt := 29) F dX10_manyOf_7 (by decide) (fun h7_1 => ?_) (fun h7_1 => ?_)
  · rw [nI_leI (by omega) (by omega)] at h7_1
    refine v_iload_n (pc := 29) (i := 2) F dX10_manyOf_29 rfl rfl ?_
    refine v_ireturn (pc := 30) F dX10_manyOf_30 (rfl) ?_
    have e : k = 12 := by omega
    subst e
    exact ⟨rfl, rfl⟩
  · rw [nI_leI (by omega) (by omega)] at h7_1
    refine v_aload_n (pc := 10) (i := 0) F dX10_manyOf_10 rfl rfl ?_
    refine v_getR (pc := 11) (o := 16) F fX10_56 dX10_manyOf_11 rfl lm0 ?_
    refine v_topR (y := 16) rfl ?_
    refine v_iload_n (pc := 14) (i := 3) F dX10_manyOf_14 rfl rfl ?_
    refine v_ialdN (pc := 15) (k0 := k) F dX10_manyOf_15 (lm10_24 lm0) (rfl) (by omega) (by decide) ?_
    refine v_iload_n (pc := 16) (i := 1) F dX10_manyOf_16 rfl rfl ?_
    refine v_icmp_ne (pc := 17) (tgt := 23) F dX10_manyOf_17 (by decide) (fun hc => ?_) (fun hc => ?_)
    · skip
      refine v_iinc (pc := 23) (i := 3) (v := nI (k + 1)) (lo' := [some (.ref _), some (.int _), some (.int _), some (.int _)]) F dX10_manyOf_23 rfl (j_inc _) rfl rfl ?_
      refine v_goto (pc := 26) (tgt := 4) F dX10_manyOf_26 (by decide) ?_
      have q := ih (by omega)
      simp only [cK, beq_iff_eq, hc, ↓reduceIte] at q
      exact q
    · skip
      refine v_iinc (pc := 20) (i := 2) (v := nI (cK (fun p => μ.1 16 p == s) k + 1)) (lo' := [some (.ref _), some (.int _), some (.int _), some (.int _)]) F dX10_manyOf_20 rfl (j_inc _) rfl rfl ?_
      refine v_iinc (pc := 23) (i := 3) (v := nI (k + 1)) (lo' := [some (.ref _), some (.int _), some (.int _), some (.int _)]) F dX10_manyOf_23 rfl (j_inc _) rfl rfl ?_
      refine v_goto (pc := 26) (tgt := 4) F dX10_manyOf_26 (by decide) ?_
      have q := ih (by omega)
      simp only [cK, beq_iff_eq, hc, ↓reduceIte] at q
      exact q

set_option maxRecDepth 100000 in
theorem c_X10_firstWith (s : Int32) (μ : j_M) : Ct yX10_firstWith cX10_firstWith 3 (some .int) 0 ΛM [.ref 0, .int s] μ (pI fun r μ2 => r = (o2i (fP (fun p => μ.1 16 p == s))) ∧ μ2 = μ) := by
  refine Ct.go (lo := [some (.ref 0), some (.int s), none]) (by decide) (Nat.le_of_ble_eq_true rfl) rfl rfl (fun X F => ?_)
  have F : Fx X cX10_firstWith RX10 0 (some .int) ΛM := F
  refine v_iconst (pc := 0) (v := nI 0) F dX10_firstWith_0 (by decide) ?_
  refine v_istore_n (pc := 1) (lo' := [some (.ref _), some (.int _), some (.int _)]) F dX10_firstWith_1 rfl rfl (Nat.le_of_ble_eq_true rfl) rfl ?_
  refine j_up 12 (fun k => (∀ j, j < k → (μ.1 16 j == s) = false) → V X _ 2 [some (.ref 0), some (.int s), some (.int (nI k))] [] μ) (fun k hk ih hI => ?_) 0 (Nat.zero_le _) (fun j hj => absurd hj (Nat.not_lt_zero _))
  refine v_iload_n (pc := 2) (i := 2) F dX10_firstWith_2 rfl rfl ?_
  refine v_bipush (pc := 3) (v := nI 12) F dX10_firstWith_3 (by decide) ?_
  refine v_icmp_ge (pc := 5) (tgt := 26) F dX10_firstWith_5 (by decide) (fun h5_1 => ?_) (fun h5_1 => ?_)
  · rw [nI_leI (by omega) (by omega)] at h5_1
    refine v_iconst (pc := 26) (v := (-1)) F dX10_firstWith_26 (by decide) ?_
    refine v_ireturn (pc := 27) F dX10_firstWith_27 (rfl) ?_
    exact ⟨by rw [fP_none (fun j hj => hI j (by omega))]; rfl, rfl⟩
  · rw [nI_leI (by omega) (by omega)] at h5_1
    refine v_aload_n (pc := 8) (i := 0) F dX10_firstWith_8 rfl rfl ?_
    refine v_getR (pc := 9) (o := 16) F fX10_56 dX10_firstWith_9 rfl lm0 ?_
    refine v_topR (y := 16) rfl ?_
    refine v_iload_n (pc := 12) (i := 2) F dX10_firstWith_12 rfl rfl ?_
    refine v_ialdN (pc := 13) (k0 := k) F dX10_firstWith_13 (lm10_24 lm0) (rfl) (by omega) (by decide) ?_
    refine v_iload_n (pc := 14) (i := 1) F dX10_firstWith_14 rfl rfl ?_
    refine v_icmp_ne (pc := 15) (tgt := 20) F dX10_firstWith_15 (by decide) (fun hc => ?_) (fun hc => ?_)
    · skip
      refine v_iinc (pc := 20) (i := 2) (v := nI (k + 1)) (lo' := [some (.ref _), some (.int _), some (.int _)]) F dX10_firstWith_20 rfl (j_inc _) rfl rfl ?_
      refine v_goto (pc := 23) (tgt := 2) F dX10_firstWith_23 (by decide) ?_
      exact ih (by omega) (fun j hj => by rcases Nat.lt_succ_iff_lt_or_eq.mp hj with q | q; exact hI j q; rw [q]; simpa using hc)
    · skip
      refine v_iload_n (pc := 18) (i := 2) F dX10_firstWith_18 rfl rfl ?_
      refine v_ireturn (pc := 19) F dX10_firstWith_19 (rfl) ?_
      exact ⟨by rw [fP_some (k := k) (by omega) (by simpa using hc) hI]; rfl, rfl⟩

set_option maxRecDepth 100000 in
theorem c_X10_lastLiked (l : Nat) (hl : l < 8) (μ : j_M) : Ct yX10_lastLiked cX10_lastLiked 4 (some .int) 2 ΛM [.ref 0, .int (nI l)] μ (pI fun r μ2 => r = (o2i (lP (fun p => likB (μ.1 3 l) (μ.1 5 l) (μ.1 16 p)))) ∧ μ2 = μ) := by
  refine Ct.go (lo := [some (.ref 0), some (.int (nI l)), none, none]) (by decide) (Nat.le_of_ble_eq_true rfl) rfl rfl (fun X F => ?_)
  have F : Fx X cX10_lastLiked RX10 2 (some .int) ΛM := F
  refine v_iconst (pc := 0) (v := (-1)) F dX10_lastLiked_0 (by decide) ?_
  refine v_istore_n (pc := 1) (lo' := [some (.ref _), some (.int _), some (.int _), _]) F dX10_lastLiked_1 rfl rfl (Nat.le_of_ble_eq_true rfl) rfl ?_
  refine v_iconst (pc := 2) (v := nI 0) F dX10_lastLiked_2 (by decide) ?_
  refine v_istore_n (pc := 3) (lo' := [some (.ref _), some (.int _), some (.int _), some (.int _)]) F dX10_lastLiked_3 rfl rfl (Nat.le_of_ble_eq_true rfl) rfl ?_
  refine j_up 12 (fun k => V X _ 4 [some (.ref 0), some (.int (nI l)), some (.int (o2i (lK (fun p => likB (μ.1 3 l) (μ.1 5 l) (μ.1 16 p)) k))), some (.int (nI k))] [] μ) (fun k hk ih => ?_) 0 (Nat.zero_le _)
  refine v_iload_n (pc := 4) (i := 3) F dX10_lastLiked_4 rfl rfl ?_
  refine v_bipush (pc := 5) (v := nI 12) F dX10_lastLiked_5 (by decide) ?_
  refine v_icmp_ge (pc := 7) (tgt := 32) F dX10_lastLiked_7 (by decide) (fun h7_1 => ?_) (fun h7_1 => ?_)
  · rw [nI_leI (by omega) (by omega)] at h7_1
    refine v_iload_n (pc := 32) (i := 2) F dX10_lastLiked_32 rfl rfl ?_
    refine v_ireturn (pc := 33) F dX10_lastLiked_33 (rfl) ?_
    have e : k = 12 := by omega
    subst e
    exact ⟨rfl, rfl⟩
  · rw [nI_leI (by omega) (by omega)] at h7_1
    refine v_aload_n (pc := 10) (i := 0) F dX10_lastLiked_10 rfl rfl ?_
    refine v_iload_n (pc := 11) (i := 1) F dX10_lastLiked_11 rfl rfl ?_
    refine v_aload_n (pc := 12) (i := 0) F dX10_lastLiked_12 rfl rfl ?_
    refine v_getR (pc := 13) (o := 16) F fX10_56 dX10_lastLiked_13 rfl lm0 ?_
    refine v_topR (y := 16) rfl ?_
    refine v_iload_n (pc := 16) (i := 3) F dX10_lastLiked_16 rfl rfl ?_
    refine v_ialdN (pc := 17) (k0 := k) F dX10_lastLiked_17 (lm10_24 lm0) (rfl) (by omega) (by decide) ?_
    refine v_callVI (pc := 18) (As := [_, _]) (rest := []) (c := 10) F mX10_doesLike kX10_200 im_X10_doesLike se_X10_doesLike dX10_lastLiked_18 rfl rfl (by decide) (c_X10_doesLike l (by omega) _ _) (by decide) rfl rfl (Nat.le_of_ble_eq_true rfl) lm0 (fun x2 μ2 hp2 => ?_)
    rw [hp2.1, hp2.2]
    refine v_if_eq (pc := 21) (tgt := 26) F dX10_lastLiked_21 (by decide) (fun hc => ?_) (fun hc => ?_)
    · rw [b2i_0] at hc
      refine v_iinc (pc := 26) (i := 3) (v := nI (k + 1)) (lo' := [some (.ref _), some (.int _), some (.int _), some (.int _)]) F dX10_lastLiked_26 rfl (j_inc _) rfl rfl ?_
      refine v_goto (pc := 29) (tgt := 4) F dX10_lastLiked_29 (by decide) ?_
      have q := ih (by omega)
      simp only [lK, hc, ↓reduceIte] at q
      exact q
    · rw [b2i_0] at hc
      rw [Classical.not_not] at hc
      refine v_iload_n (pc := 24) (i := 3) F dX10_lastLiked_24 rfl rfl ?_
      refine v_istore_n (pc := 25) (lo' := [some (.ref _), some (.int _), some (.int _), some (.int _)]) F dX10_lastLiked_25 rfl rfl (Nat.le_of_ble_eq_true rfl) rfl ?_
      refine v_iinc (pc := 26) (i := 3) (v := nI (k + 1)) (lo' := [some (.ref _), some (.int _), some (.int _), some (.int _)]) F dX10_lastLiked_26 rfl (j_inc _) rfl rfl ?_
      refine v_goto (pc := 29) (tgt := 4) F dX10_lastLiked_29 (by decide) ?_
      have q := ih (by omega)
      simp only [lK, hc, ↓reduceIte] at q
      exact q

theorem fP_lt {P : Nat → Bool} : ∀ p, fP P = some p → p < 12 := fun p h => (fP_spec h).1
theorem lK_lt {P : Nat → Bool} : ∀ k p, lK P k = some p → p < k := by
  intro k
  induction k with
  | zero => intro p h; cases h
  | succ k ih =>
    intro p h
    simp only [lK] at h
    by_cases e : P k = true
    · rw [if_pos e] at h; cases h; omega
    · rw [if_neg e] at h; have := ih p h; omega
theorem lP_lt {P : Nat → Bool} : ∀ p, lP P = some p → p < 12 := lK_lt 12
theorem lookO_lt {a lk : Int32} {u : Nat → Int32} : ∀ p, lookO a lk u = some p → p < 12 := by
  intro p h
  unfold lookO at h
  split at h
  · rename_i q hq; cases h; exact fP_lt p hq
  · exact fP_lt p h
theorem shyO_lt {a lk : Int32} {u : Nat → Int32} {s : Nat} : ∀ p, (shyO a lk u s).2 = some p → p < 12 := by
  induction s with
  | zero => intro p h; cases h
  | succ s ih =>
    intro p h
    simp only [shyO] at h
    split at h
    · exact fP_lt (P := fun p => u p == nI s) p h
    · exact ih p h
theorem shyO_le {a lk : Int32} {u : Nat → Int32} {s : Nat} : (shyO a lk u s).1 ≤ 12 := by
  induction s with
  | zero => exact Nat.zero_le _
  | succ s ih =>
    simp only [shyO]
    split
    · exact cK_le _ _
    · exact ih
theorem cP_b {P : Nat → Bool} : cP P < 2 ^ 31 := Nat.lt_of_le_of_lt (cK_le P 12) (by decide)
theorem shyO_b {a lk : Int32} {u : Nat → Int32} {s : Nat} : (shyO a lk u s).1 < 2 ^ 31 := Nat.lt_of_le_of_lt shyO_le (by decide)
theorem shyO_t {a lk : Int32} {u : Nat → Int32} {s : Nat} (h1 : likB a lk (nI s) = true) (h2 : (shyO a lk u s).1 < cP (fun p => u p == nI s)) : shyO a lk u (s + 1) = (cP (fun p => u p == nI s), fP (fun p => u p == nI s)) := if_pos ⟨h1, h2⟩
theorem shyO_f {a lk : Int32} {u : Nat → Int32} {s : Nat} (h : ¬ (likB a lk (nI s) = true ∧ (shyO a lk u s).1 < cP (fun p => u p == nI s))) : shyO a lk u (s + 1) = shyO a lk u s := if_neg h
theorem o2i_m1 {o : Option Nat} (h : ∀ p, o = some p → p < 12) : (o2i o = -1) = (o = none) := by
  cases o with
  | none => simp [o2i]
  | some p => simp [o2i, j_m1 (show p < 2 ^ 31 by have := h p rfl; omega)]
theorem fP_m1 {P : Nat → Bool} : (o2i (fP P) = -1) = (fP P = none) := o2i_m1 fP_lt
theorem lP_m1 {P : Nat → Bool} : (o2i (lP P) = -1) = (lP P = none) := o2i_m1 lP_lt
/-- a place is taken, places are taken -/
def m_t1 (μ : j_M) (l p : Nat) : j_M := if μ.1 18 l = 0 then j_pI μ 19 l (nI p) else μ
def m_tk (μ : j_M) (l p : Nat) : j_M := j_pI (j_pI (m_t1 μ l p) 18 l ((m_t1 μ l p).1 18 l ||| ((1 : Int32) <<< (nI p &&& 31)))) 16 p (-1)
def m_tkL (μ : j_M) (l : Nat) : List Nat → j_M
  | [] => μ
  | p :: L => m_tkL (m_tk μ l p) l L
theorem m_tkL_app (μ : j_M) (l : Nat) (A B : List Nat) : m_tkL μ l (A ++ B) = m_tkL (m_tkL μ l A) l B := by
  induction A generalizing μ with
  | nil => rfl
  | cons p A ih => exact ih _
theorem m_tk_c {μ : j_M} {l p c : Nat} (h : c ≠ 16 ∧ c ≠ 18 ∧ c ≠ 19) : (m_tk μ l p).1 c = μ.1 c := by
  unfold m_tk m_t1
  rw [j_pI_ne h.1, j_pI_ne h.2.1]
  split
  · rw [j_pI_ne h.2.2]
  · rfl
theorem m_tkL_c {μ : j_M} {l c : Nat} {L : List Nat} (h : c ≠ 16 ∧ c ≠ 18 ∧ c ≠ 19) : (m_tkL μ l L).1 c = μ.1 c := by
  induction L generalizing μ with
  | nil => rfl
  | cons p L ih => exact (ih (μ := m_tk μ l p)).trans (m_tk_c h)
theorem m_tk_16 {μ : j_M} {l p : Nat} : (m_tk μ l p).1 16 = rmL (μ.1 16) [p] := by
  unfold m_tk m_t1
  funext q
  have : (j_pI (if μ.1 18 l = 0 then j_pI μ 19 l (nI p) else μ) 18 l ((if μ.1 18 l = 0 then j_pI μ 19 l (nI p) else μ).1 18 l ||| ((1 : Int32) <<< (nI p &&& 31)))).1 16 = μ.1 16 := by
    rw [j_pI_ne (by decide)]
    split
    · rw [j_pI_ne (by decide)]
    · rfl
  show (if 16 = 16 ∧ q = p then (-1 : Int32) else _) = _
  rw [this]
  simp [rmL]
theorem rmL_app (u : Nat → Int32) (A B : List Nat) : rmL (rmL u A) B = rmL u (A ++ B) := by
  funext q
  unfold rmL
  by_cases h1 : q ∈ B <;> by_cases h2 : q ∈ A <;> simp [h1, h2]
theorem rmL_nil (u : Nat → Int32) : rmL u [] = u := by funext q; simp [rmL]
theorem m_tkL_16 {μ : j_M} {l : Nat} {L : List Nat} : (m_tkL μ l L).1 16 = rmL (μ.1 16) L := by
  induction L generalizing μ with
  | nil => exact (rmL_nil _).symm
  | cons p L ih =>
    show (m_tkL (m_tk μ l p) l L).1 16 = _
    rw [ih, m_tk_16, rmL_app]
    rfl
theorem fl_cons {P : Nat → Bool} {p : Nat} (h : fP P = some p) : (List.range 12).filter P = p :: (List.range 12).filter (fun q => P q && !(q == p)) := by
  obtain ⟨h1, h2, h3⟩ := fP_spec h
  have key : ∀ n, p < n → (List.range n).filter P = p :: (List.range n).filter (fun q => P q && !(q == p)) := by
    intro n
    induction n with
    | zero => intro q; omega
    | succ n ih =>
      intro hn
      rw [List.range_succ, List.filter_append, List.filter_append]
      by_cases e : p = n
      · subst e
        have z1 : (List.range p).filter P = [] := by
          rw [List.filter_eq_nil_iff]
          intro a ha
          rw [h3 a (List.mem_range.mp ha)]
          exact Bool.false_ne_true
        have z2 : (List.range p).filter (fun q => P q && !(q == p)) = [] := by
          rw [List.filter_eq_nil_iff]
          intro a ha
          rw [h3 a (List.mem_range.mp ha)]
          simp
        rw [z1, z2]
        simp [h2]
      · rw [ih (by omega)]
        have e2 : ¬ n = p := fun q => e q.symm
        simp [List.filter_cons, e2]
  exact key 12 h1
theorem fl_nil {P : Nat → Bool} (h : fP P = none) : (List.range 12).filter P = [] := by
  rw [List.filter_eq_nil_iff]
  intro a ha
  rw [fP_none_iff.mp h a (List.mem_range.mp ha)]
  exact Bool.false_ne_true
theorem rm_eq {u : Nat → Int32} {a : Int32} {p : Nat} (ha : ¬ a = -1) : (fun q => rmL u [p] q == a) = (fun q => (u q == a) && !(q == p)) := by
  funext q
  have h1 : ((-1 : Int32) == a) = false := by simp; exact fun z => ha z.symm
  by_cases h : q = p
  · subst h; simp [rmL]; exact fun z => ha z.symm
  · simp [rmL, h]

set_option maxRecDepth 100000 in
theorem c_X10_takesN (l : Nat) (hl : l < 8) (μ : j_M) : Ct yX10_takes cX10_takes 3 none 0 ΛM [.ref 0, .int (nI l), .int ((-1))] μ (pV fun μ2 => μ2 = μ) := by
  refine Ct.go (lo := [some (.ref 0), some (.int (nI l)), some (.int ((-1)))]) (by decide) (Nat.le_of_ble_eq_true rfl) rfl rfl (fun X F => ?_)
  have F : Fx X cX10_takes RX10 0 none ΛM := F
  refine v_iload_n (pc := 0) (i := 2) F dX10_takes_0 rfl rfl ?_
  refine v_iconst (pc := 1) (v := (-1)) F dX10_takes_1 (by decide) ?_
  refine v_icmp_ne (pc := 2) (tgt := 6) F dX10_takes_2 (by decide) (fun h2_1 => ?_) (fun h2_1 => ?_)
  · skip
    exact absurd rfl h2_1
  · skip
    refine v_return (pc := 5) F dX10_takes_5 ?_
    rfl

set_option maxRecDepth 100000 in
theorem c_X10_takesS (l : Nat) (hl : l < 8) (p : Nat) (hp : p < 12) (μ : j_M) : Ct yX10_takes cX10_takes 3 none 0 ΛM [.ref 0, .int (nI l), .int (nI p)] μ (pV fun μ2 => μ2 = m_tk μ l p) := by
  refine Ct.go (lo := [some (.ref 0), some (.int (nI l)), some (.int (nI p))]) (by decide) (Nat.le_of_ble_eq_true rfl) rfl rfl (fun X F => ?_)
  have F : Fx X cX10_takes RX10 0 none ΛM := F
  refine v_iload_n (pc := 0) (i := 2) F dX10_takes_0 rfl rfl ?_
  refine v_iconst (pc := 1) (v := (-1)) F dX10_takes_1 (by decide) ?_
  refine v_icmp_ne (pc := 2) (tgt := 6) F dX10_takes_2 (by decide) (fun h2_1 => ?_) (fun h2_1 => ?_)
  · rw [j_nm1 (by omega)] at h2_1
    refine v_aload_n (pc := 6) (i := 0) F dX10_takes_6 rfl rfl ?_
    refine v_getR (pc := 7) (o := 18) F fX10_62 dX10_takes_7 rfl lm0 ?_
    refine v_topR (y := 18) rfl ?_
    refine v_iload_n (pc := 10) (i := 1) F dX10_takes_10 rfl rfl ?_
    refine v_ialdN (pc := 11) (k0 := l) F dX10_takes_11 (lm10_27 lm0) (rfl) (by omega) (by decide) ?_
    refine v_if_ne (pc := 12) (tgt := 22) F dX10_takes_12 (by decide) (fun hc => ?_) (fun hc => ?_)
    · skip
      refine v_aload_n (pc := 22) (i := 0) F dX10_takes_22 rfl rfl ?_
      refine v_getR (pc := 23) (o := 18) F fX10_62 dX10_takes_23 rfl lm0 ?_
      refine v_topR (y := 18) rfl ?_
      refine v_iload_n (pc := 26) (i := 1) F dX10_takes_26 rfl rfl ?_
      refine v_dup2 (pc := 27) F dX10_takes_27 rfl rfl ?_
      refine v_ialdN (pc := 28) (k0 := l) F dX10_takes_28 (lm10_27 lm0) (rfl) (by omega) (by decide) ?_
      refine v_iconst (pc := 29) (v := nI 1) F dX10_takes_29 (by decide) ?_
      refine v_iload_n (pc := 30) (i := 2) F dX10_takes_30 rfl rfl ?_
      refine v_ishl (pc := 31) F dX10_takes_31 ?_
      refine v_ior (pc := 32) F dX10_takes_32 ?_
      refine v_iastN (pc := 33) (k0 := l) F dX10_takes_33 (lm10_27 lm0) (rfl) (by omega) (by decide) ?_
      refine v_aload_n (pc := 34) (i := 0) F dX10_takes_34 rfl rfl ?_
      refine v_getR (pc := 35) (o := 16) F fX10_56 dX10_takes_35 rfl lm0 ?_
      refine v_topR (y := 16) rfl ?_
      refine v_iload_n (pc := 38) (i := 2) F dX10_takes_38 rfl rfl ?_
      refine v_iconst (pc := 39) (v := (-1)) F dX10_takes_39 (by decide) ?_
      refine v_iastN (pc := 40) (k0 := p) F dX10_takes_40 (lm10_24 lm0) (rfl) (by omega) (by decide) ?_
      refine v_return (pc := 41) F dX10_takes_41 ?_
      unfold m_tk m_t1
      first | rw [if_pos hc] | rw [if_neg hc]
      rfl
    · skip
      refine v_aload_n (pc := 15) (i := 0) F dX10_takes_15 rfl rfl ?_
      refine v_getR (pc := 16) (o := 19) F fX10_65 dX10_takes_16 rfl lm0 ?_
      refine v_topR (y := 19) rfl ?_
      refine v_iload_n (pc := 19) (i := 1) F dX10_takes_19 rfl rfl ?_
      refine v_iload_n (pc := 20) (i := 2) F dX10_takes_20 rfl rfl ?_
      refine v_iastN (pc := 21) (k0 := l) F dX10_takes_21 (lm10_28 lm0) (rfl) (by omega) (by decide) ?_
      refine v_aload_n (pc := 22) (i := 0) F dX10_takes_22 rfl rfl ?_
      refine v_getR (pc := 23) (o := 18) F fX10_62 dX10_takes_23 rfl lm0 ?_
      refine v_topR (y := 18) rfl ?_
      refine v_iload_n (pc := 26) (i := 1) F dX10_takes_26 rfl rfl ?_
      refine v_dup2 (pc := 27) F dX10_takes_27 rfl rfl ?_
      refine v_ialdN (pc := 28) (k0 := l) F dX10_takes_28 (lm10_27 lm0) (rfl) (by omega) (by decide) ?_
      refine v_iconst (pc := 29) (v := nI 1) F dX10_takes_29 (by decide) ?_
      refine v_iload_n (pc := 30) (i := 2) F dX10_takes_30 rfl rfl ?_
      refine v_ishl (pc := 31) F dX10_takes_31 ?_
      refine v_ior (pc := 32) F dX10_takes_32 ?_
      refine v_iastN (pc := 33) (k0 := l) F dX10_takes_33 (lm10_27 lm0) (rfl) (by omega) (by decide) ?_
      refine v_aload_n (pc := 34) (i := 0) F dX10_takes_34 rfl rfl ?_
      refine v_getR (pc := 35) (o := 16) F fX10_56 dX10_takes_35 rfl lm0 ?_
      refine v_topR (y := 16) rfl ?_
      refine v_iload_n (pc := 38) (i := 2) F dX10_takes_38 rfl rfl ?_
      refine v_iconst (pc := 39) (v := (-1)) F dX10_takes_39 (by decide) ?_
      refine v_iastN (pc := 40) (k0 := p) F dX10_takes_40 (lm10_24 lm0) (rfl) (by omega) (by decide) ?_
      refine v_return (pc := 41) F dX10_takes_41 ?_
      unfold m_tk m_t1
      first | rw [if_pos hc] | rw [if_neg hc]
      rfl
  · rw [j_nm1 (by omega)] at h2_1
    exact h2_1.elim

theorem c_X10_takesO (l : Nat) (hl : l < 8) (o : Option Nat) (ho : ∀ p, o = some p → p < 12) (μ : j_M) : Ct yX10_takes cX10_takes 3 none 0 ΛM [.ref 0, .int (nI l), .int (o2i o)] μ (pV fun μ2 => μ2 = m_tkL μ l o.toList) := by
  cases o with
  | none => exact c_X10_takesN l hl μ
  | some p => exact c_X10_takesS l hl p (ho p rfl) μ

set_option maxRecDepth 100000 in
theorem c_X10_look (l : Nat) (hl : l < 8) (μ : j_M) : Ct yX10_look cX10_look 4 (some .int) 2 ΛM [.ref 0, .int (nI l)] μ (pI fun r μ2 => r = (o2i (lookO (μ.1 3 l) (μ.1 5 l) (μ.1 16))) ∧ μ2 = μ) := by
  refine Ct.go (lo := [some (.ref 0), some (.int (nI l)), none, none]) (by decide) (Nat.le_of_ble_eq_true rfl) rfl rfl (fun X F => ?_)
  have F : Fx X cX10_look RX10 2 (some .int) ΛM := F
  refine v_aload_n (pc := 0) (i := 0) F dX10_look_0 rfl rfl ?_
  refine v_aload_n (pc := 1) (i := 0) F dX10_look_1 rfl rfl ?_
  refine v_getR (pc := 2) (o := 3) F fX10_16 dX10_look_2 rfl lm0 ?_
  refine v_topR (y := 3) rfl ?_
  refine v_iload_n (pc := 5) (i := 1) F dX10_look_5 rfl rfl ?_
  refine v_ialdN (pc := 6) (k0 := l) F dX10_look_6 (lm10_3 lm0) (rfl) (by omega) (by decide) ?_
  refine v_callVI (pc := 7) (As := [_]) (rest := []) (c := 10) F mX10_firstWith kX10_197 im_X10_firstWith se_X10_firstWith dX10_look_7 rfl rfl (by decide) (c_X10_firstWith _ _) (by decide) rfl rfl (Nat.le_of_ble_eq_true rfl) lm0 (fun x1 μ1 hp1 => ?_)
  rw [hp1.1, hp1.2]
  rcases hE : fP (fun p => μ.1 16 p == μ.1 3 l) with _ | p0
  · skip
    refine v_topE (y := -1) rfl ?_
    refine v_istore_n (pc := 10) (lo' := [some (.ref _), some (.int _), some (.int _), _]) F dX10_look_10 rfl rfl (Nat.le_of_ble_eq_true rfl) rfl ?_
    refine v_iconst (pc := 11) (v := nI 0) F dX10_look_11 (by decide) ?_
    refine v_istore_n (pc := 12) (lo' := [some (.ref _), some (.int _), some (.int _), some (.int _)]) F dX10_look_12 rfl rfl (Nat.le_of_ble_eq_true rfl) rfl ?_
    refine j_up 12 (fun k => (∀ j, j < k → likB (μ.1 3 l) (μ.1 5 l) (μ.1 16 j) = false) → V X _ 13 [some (.ref 0), some (.int (nI l)), some (.int ((-1))), some (.int (nI k))] [] μ) (fun k hk ih hI => ?_) 0 (Nat.zero_le _) (fun j hj => absurd hj (Nat.not_lt_zero _))
    refine v_iload_n (pc := 13) (i := 3) F dX10_look_13 rfl rfl ?_
    refine v_bipush (pc := 14) (v := nI 12) F dX10_look_14 (by decide) ?_
    refine v_icmp_ge (pc := 16) (tgt := 46) F dX10_look_16 (by decide) (fun hk2 => ?_) (fun hk2 => ?_)
    · rw [nI_leI (by omega) (by omega)] at hk2
      refine v_iload_n (pc := 46) (i := 2) F dX10_look_46 rfl rfl ?_
      refine v_ireturn (pc := 47) F dX10_look_47 (rfl) ?_
      refine ⟨?_, rfl⟩
      unfold lookO
      rw [hE]
      simp only []
      rw [fP_none (fun j hj => hI j (by omega))]
      rfl
    · rw [nI_leI (by omega) (by omega)] at hk2
      refine v_iload_n (pc := 19) (i := 2) F dX10_look_19 rfl rfl ?_
      refine v_iconst (pc := 20) (v := (-1)) F dX10_look_20 (by decide) ?_
      refine v_icmp_ne (pc := 21) (tgt := 46) F dX10_look_21 (by decide) (fun h21_3 => ?_) (fun h21_3 => ?_)
      · skip
        exact absurd rfl h21_3
      · skip
        refine v_aload_n (pc := 24) (i := 0) F dX10_look_24 rfl rfl ?_
        refine v_iload_n (pc := 25) (i := 1) F dX10_look_25 rfl rfl ?_
        refine v_aload_n (pc := 26) (i := 0) F dX10_look_26 rfl rfl ?_
        refine v_getR (pc := 27) (o := 16) F fX10_56 dX10_look_27 rfl lm0 ?_
        refine v_topR (y := 16) rfl ?_
        refine v_iload_n (pc := 30) (i := 3) F dX10_look_30 rfl rfl ?_
        refine v_ialdN (pc := 31) (k0 := k) F dX10_look_31 (lm10_24 lm0) (rfl) (by omega) (by decide) ?_
        refine v_callVI (pc := 32) (As := [_, _]) (rest := []) (c := 10) F mX10_doesLike kX10_200 im_X10_doesLike se_X10_doesLike dX10_look_32 rfl rfl (by decide) (c_X10_doesLike l (by omega) _ _) (by decide) rfl rfl (Nat.le_of_ble_eq_true rfl) lm0 (fun x4 μ4 hp4 => ?_)
        rw [hp4.1, hp4.2]
        refine v_if_eq (pc := 35) (tgt := 40) F dX10_look_35 (by decide) (fun hc => ?_) (fun hc => ?_)
        · rw [b2i_0] at hc
          refine v_iinc (pc := 40) (i := 3) (v := nI (k + 1)) (lo' := [some (.ref _), some (.int _), some (.int _), some (.int _)]) F dX10_look_40 rfl (j_inc _) rfl rfl ?_
          refine v_goto (pc := 43) (tgt := 13) F dX10_look_43 (by decide) ?_
          exact ih (by omega) (fun j hj => by rcases Nat.lt_succ_iff_lt_or_eq.mp hj with q | q; exact hI j q; rw [q]; simpa using hc)
        · rw [b2i_0] at hc
          rw [Classical.not_not] at hc
          refine v_iload_n (pc := 38) (i := 3) F dX10_look_38 rfl rfl ?_
          refine v_istore_n (pc := 39) (lo' := [some (.ref _), some (.int _), some (.int _), some (.int _)]) F dX10_look_39 rfl rfl (Nat.le_of_ble_eq_true rfl) rfl ?_
          refine v_iinc (pc := 40) (i := 3) (v := nI (k + 1)) (lo' := [some (.ref _), some (.int _), some (.int _), some (.int _)]) F dX10_look_40 rfl (j_inc _) rfl rfl ?_
          refine v_goto (pc := 43) (tgt := 13) F dX10_look_43 (by decide) ?_
          refine v_iload_n (pc := 13) (i := 3) F dX10_look_13 rfl rfl ?_
          refine v_bipush (pc := 14) (v := nI 12) F dX10_look_14 (by decide) ?_
          refine v_icmp_ge (pc := 16) (tgt := 46) F dX10_look_16 (by decide) (fun hk2 => ?_) (fun hk2 => ?_)
          · rw [nI_leI (by omega) (by omega)] at hk2
            refine v_iload_n (pc := 46) (i := 2) F dX10_look_46 rfl rfl ?_
            refine v_ireturn (pc := 47) F dX10_look_47 (rfl) ?_
            refine ⟨?_, rfl⟩
            unfold lookO
            rw [hE]
            simp only []
            rw [fP_some (k := k) (by omega) hc hI]
            rfl
          · rw [nI_leI (by omega) (by omega)] at hk2
            refine v_iload_n (pc := 19) (i := 2) F dX10_look_19 rfl rfl ?_
            refine v_iconst (pc := 20) (v := (-1)) F dX10_look_20 (by decide) ?_
            refine v_icmp_ne (pc := 21) (tgt := 46) F dX10_look_21 (by decide) (fun h21_7 => ?_) (fun h21_7 => ?_)
            · rw [j_nm1 (by omega)] at h21_7
              refine v_iload_n (pc := 46) (i := 2) F dX10_look_46 rfl rfl ?_
              refine v_ireturn (pc := 47) F dX10_look_47 (rfl) ?_
              refine ⟨?_, rfl⟩
              unfold lookO
              rw [hE]
              simp only []
              rw [fP_some (k := k) (by omega) hc hI]
              rfl
            · rw [j_nm1 (by omega)] at h21_7
              exact h21_7.elim
  · skip
    refine v_topE (y := nI p0) rfl ?_
    have hp0 := fP_lt p0 hE
    refine v_istore_n (pc := 10) (lo' := [some (.ref _), some (.int _), some (.int _), _]) F dX10_look_10 rfl rfl (Nat.le_of_ble_eq_true rfl) rfl ?_
    refine v_iconst (pc := 11) (v := nI 0) F dX10_look_11 (by decide) ?_
    refine v_istore_n (pc := 12) (lo' := [some (.ref _), some (.int _), some (.int _), some (.int _)]) F dX10_look_12 rfl rfl (Nat.le_of_ble_eq_true rfl) rfl ?_
    refine v_iload_n (pc := 13) (i := 3) F dX10_look_13 rfl rfl ?_
    refine v_bipush (pc := 14) (v := nI 12) F dX10_look_14 (by decide) ?_
    refine v_icmp_ge (pc := 16) (tgt := 46) F dX10_look_16 (by decide) (fun hk2 => ?_) (fun hk2 => ?_)
    · rw [nI_leI (by omega) (by omega)] at hk2
      exact absurd hk2 (by decide)
    · rw [nI_leI (by omega) (by omega)] at hk2
      refine v_iload_n (pc := 19) (i := 2) F dX10_look_19 rfl rfl ?_
      refine v_iconst (pc := 20) (v := (-1)) F dX10_look_20 (by decide) ?_
      refine v_icmp_ne (pc := 21) (tgt := 46) F dX10_look_21 (by decide) (fun h21_9 => ?_) (fun h21_9 => ?_)
      · rw [j_nm1 (by omega)] at h21_9
        refine v_iload_n (pc := 46) (i := 2) F dX10_look_46 rfl rfl ?_
        refine v_ireturn (pc := 47) F dX10_look_47 (rfl) ?_
        refine ⟨?_, rfl⟩
        unfold lookO
        rw [hE]
        rfl
      · rw [j_nm1 (by omega)] at h21_9
        exact h21_9.elim

set_option maxRecDepth 100000 in
theorem c_X10_shyest (l : Nat) (hl : l < 8) (μ : j_M) : Ct yX10_shyest cX10_shyest 5 (some .int) 2 ΛM [.ref 0, .int (nI l)] μ (pI fun r μ2 => r = (o2i (shyO (μ.1 3 l) (μ.1 5 l) (μ.1 16) 8).2) ∧ μ2 = μ) := by
  refine Ct.go (lo := [some (.ref 0), some (.int (nI l)), none, none, none]) (by decide) (Nat.le_of_ble_eq_true rfl) rfl rfl (fun X F => ?_)
  have F : Fx X cX10_shyest RX10 2 (some .int) ΛM := F
  refine v_iconst (pc := 0) (v := nI 0) F dX10_shyest_0 (by decide) ?_
  refine v_istore_n (pc := 1) (lo' := [some (.ref _), some (.int _), some (.int _), _, _]) F dX10_shyest_1 rfl rfl (Nat.le_of_ble_eq_true rfl) rfl ?_
  refine v_iconst (pc := 2) (v := (-1)) F dX10_shyest_2 (by decide) ?_
  refine v_istore_n (pc := 3) (lo' := [some (.ref _), some (.int _), some (.int _), some (.int _), _]) F dX10_shyest_3 rfl rfl (Nat.le_of_ble_eq_true rfl) rfl ?_
  refine v_iconst (pc := 4) (v := nI 0) F dX10_shyest_4 (by decide) ?_
  refine v_istore (pc := 5) (lo' := [some (.ref _), some (.int _), some (.int _), some (.int _), some (.int _)]) F dX10_shyest_5 rfl (Nat.le_of_ble_eq_true rfl) rfl ?_
  refine j_up 8 (fun k => V X _ 7 [some (.ref 0), some (.int (nI l)), some (.int (nI ((shyO (μ.1 3 l) (μ.1 5 l) (μ.1 16) k).1))), some (.int (o2i (shyO (μ.1 3 l) (μ.1 5 l) (μ.1 16) k).2)), some (.int (nI k))] [] μ) (fun k hk ih => ?_) 0 (Nat.zero_le _)
  refine v_iload (pc := 7) (i := 4) F dX10_shyest_7 rfl ?_
  refine v_bipush (pc := 9) (v := nI 8) F dX10_shyest_9 (by decide) ?_
  refine v_icmp_ge (pc := 11) (tgt := 57) F dX10_shyest_11 (by decide) (fun h11_1 => ?_) (fun h11_1 => ?_)
  · rw [nI_leI (by omega) (by omega)] at h11_1
    refine v_iload_n (pc := 57) (i := 3) F dX10_shyest_57 rfl rfl ?_
    refine v_ireturn (pc := 58) F dX10_shyest_58 (rfl) ?_
    have e : k = 8 := by omega
    subst e
    exact ⟨rfl, rfl⟩
  · rw [nI_leI (by omega) (by omega)] at h11_1
    refine v_aload_n (pc := 14) (i := 0) F dX10_shyest_14 rfl rfl ?_
    refine v_iload_n (pc := 15) (i := 1) F dX10_shyest_15 rfl rfl ?_
    refine v_iload (pc := 16) (i := 4) F dX10_shyest_16 rfl ?_
    refine v_callVI (pc := 18) (As := [_, _]) (rest := []) (c := 10) F mX10_doesLike kX10_200 im_X10_doesLike se_X10_doesLike dX10_shyest_18 rfl rfl (by decide) (c_X10_doesLike l (by omega) _ _) (by decide) rfl rfl (Nat.le_of_ble_eq_true rfl) lm0 (fun x2 μ2 hp2 => ?_)
    rw [hp2.1, hp2.2]
    refine v_if_eq (pc := 21) (tgt := 51) F dX10_shyest_21 (by decide) (fun ha => ?_) (fun ha => ?_)
    · rw [b2i_0] at ha
      refine v_iinc (pc := 51) (i := 4) (v := nI (k + 1)) (lo' := [some (.ref _), some (.int _), some (.int _), some (.int _), some (.int _)]) F dX10_shyest_51 rfl (j_inc _) rfl rfl ?_
      refine v_goto (pc := 54) (tgt := 7) F dX10_shyest_54 (by decide) ?_
      have q := ih (by omega)
      first | (rw [shyO_t ha hb] at q; exact q) | (rw [shyO_f (fun z => ha z.1)] at q; exact q) | (rw [shyO_f (fun z => hb z.2)] at q; exact q)
    · rw [b2i_0] at ha
      rw [Classical.not_not] at ha
      refine v_aload_n (pc := 24) (i := 0) F dX10_shyest_24 rfl rfl ?_
      refine v_iload (pc := 25) (i := 4) F dX10_shyest_25 rfl ?_
      refine v_callVI (pc := 27) (As := [_]) (rest := []) (c := 10) F mX10_manyOf kX10_203 im_X10_manyOf se_X10_manyOf dX10_shyest_27 rfl rfl (by decide) (c_X10_manyOf _ _) (by decide) rfl rfl (Nat.le_of_ble_eq_true rfl) lm0 (fun x4 μ4 hp4 => ?_)
      rw [hp4.1, hp4.2]
      refine v_iload_n (pc := 30) (i := 2) F dX10_shyest_30 rfl rfl ?_
      refine v_icmp_gt (pc := 31) (tgt := 37) F dX10_shyest_31 (by decide) (fun hb => ?_) (fun hb => ?_)
      · rw [nI_ltI shyO_b cP_b] at hb
        refine v_aload_n (pc := 37) (i := 0) F dX10_shyest_37 rfl rfl ?_
        refine v_iload (pc := 38) (i := 4) F dX10_shyest_38 rfl ?_
        refine v_callVI (pc := 40) (As := [_]) (rest := []) (c := 10) F mX10_manyOf kX10_203 im_X10_manyOf se_X10_manyOf dX10_shyest_40 rfl rfl (by decide) (c_X10_manyOf _ _) (by decide) rfl rfl (Nat.le_of_ble_eq_true rfl) lm0 (fun x6 μ6 hp6 => ?_)
        rw [hp6.1, hp6.2]
        refine v_istore_n (pc := 43) (lo' := [some (.ref _), some (.int _), some (.int _), some (.int _), some (.int _)]) F dX10_shyest_43 rfl rfl (Nat.le_of_ble_eq_true rfl) rfl ?_
        refine v_aload_n (pc := 44) (i := 0) F dX10_shyest_44 rfl rfl ?_
        refine v_iload (pc := 45) (i := 4) F dX10_shyest_45 rfl ?_
        refine v_callVI (pc := 47) (As := [_]) (rest := []) (c := 10) F mX10_firstWith kX10_197 im_X10_firstWith se_X10_firstWith dX10_shyest_47 rfl rfl (by decide) (c_X10_firstWith _ _) (by decide) rfl rfl (Nat.le_of_ble_eq_true rfl) lm0 (fun x7 μ7 hp7 => ?_)
        rw [hp7.1, hp7.2]
        refine v_istore_n (pc := 50) (lo' := [some (.ref _), some (.int _), some (.int _), some (.int _), some (.int _)]) F dX10_shyest_50 rfl rfl (Nat.le_of_ble_eq_true rfl) rfl ?_
        refine v_iinc (pc := 51) (i := 4) (v := nI (k + 1)) (lo' := [some (.ref _), some (.int _), some (.int _), some (.int _), some (.int _)]) F dX10_shyest_51 rfl (j_inc _) rfl rfl ?_
        refine v_goto (pc := 54) (tgt := 7) F dX10_shyest_54 (by decide) ?_
        have q := ih (by omega)
        first | (rw [shyO_t ha hb] at q; exact q) | (rw [shyO_f (fun z => ha z.1)] at q; exact q) | (rw [shyO_f (fun z => hb z.2)] at q; exact q)
      · rw [nI_ltI shyO_b cP_b] at hb
        refine v_goto (pc := 34) (tgt := 51) F dX10_shyest_34 (by decide) ?_
        refine v_iinc (pc := 51) (i := 4) (v := nI (k + 1)) (lo' := [some (.ref _), some (.int _), some (.int _), some (.int _), some (.int _)]) F dX10_shyest_51 rfl (j_inc _) rfl rfl ?_
        refine v_goto (pc := 54) (tgt := 7) F dX10_shyest_54 (by decide) ?_
        have q := ih (by omega)
        first | (rw [shyO_t ha hb] at q; exact q) | (rw [shyO_f (fun z => ha z.1)] at q; exact q) | (rw [shyO_f (fun z => hb z.2)] at q; exact q)
