/-! the reference's odds -/
def wyK (c : Nat → Int32) (t sk : Int32) : Nat → Int64
  | 0 => 1
  | l + 1 => if nI l = sk then wyK c t sk l else wyK c t sk l * (if tb t l = true then (c l).toInt64 else (nI 12 - c l).toInt64)
def alK (sk : Int32) : Nat → Int64
  | 0 => 1
  | l + 1 => if nI l = sk then alK sk l else alK sk l * 12
theorem wy_s {c : Nat → Int32} {t sk : Int32} {l : Nat} (h : nI l = sk) : wyK c t sk (l + 1) = wyK c t sk l := if_pos h
theorem wy_t {c : Nat → Int32} {t sk : Int32} {l : Nat} (h : ¬ nI l = sk) (hb : tb t l = true) : wyK c t sk (l + 1) = wyK c t sk l * (c l).toInt64 := by simp only [wyK, h, hb, ↓reduceIte]
theorem wy_f {c : Nat → Int32} {t sk : Int32} {l : Nat} (h : ¬ nI l = sk) (hb : ¬ tb t l = true) : wyK c t sk (l + 1) = wyK c t sk l * (nI 12 - c l).toInt64 := by simp only [wyK, h, ↓reduceIte]; rw [if_neg hb]
theorem al_s {sk : Int32} {l : Nat} (h : nI l = sk) : alK sk (l + 1) = alK sk l := if_pos h
theorem al_f {sk : Int32} {l : Nat} (h : ¬ nI l = sk) : alK sk (l + 1) = alK sk l * 12 := if_neg h
theorem al_p {sk : Int32} : ∀ l, ∃ m, m ≤ l ∧ alK sk l = lN (12 ^ m) := by
  intro l
  induction l with
  | zero => exact ⟨0, Nat.le_refl _, rfl⟩
  | succ l ih =>
    obtain ⟨m, hm, e⟩ := ih
    by_cases h : nI l = sk
    · exact ⟨m, by omega, (al_s h).trans e⟩
    · refine ⟨m + 1, by omega, (al_f h).trans ?_⟩
      rw [e, show (12 : Int64) = lN 12 from rfl, lN_mul, Nat.pow_succ]
theorem al_ne {sk : Int32} {n : Nat} (hn : n ≤ 8) : ¬ alK sk n = 0 := by
  obtain ⟨m, hm, e⟩ := al_p (sk := sk) n
  rw [e, show (0 : Int64) = lN 0 from rfl]
  have h1 : 12 ^ m ≤ 12 ^ 8 := Nat.pow_le_pow_right (by omega) (by omega)
  have h2 : (12 : Nat) ^ 8 = 429981696 := by decide
  have h3 : 0 < 12 ^ m := Nat.pow_pos (by omega)
  rw [pk_lEQ (by omega) (by omega)]
  omega
def odK (w : Nat → Nat → Int32) (n p : Nat) : Nat → Int64
  | 0 => 0
  | t + 1 => if uE w n (nI t) p = -1 then odK w n p t else odK w n p t + wyK (w 6) (nI t) (-1) n
def liK (w : Nat → Nat → Int32) (n l : Nat) : Nat → Int64
  | 0 => 0
  | t + 1 => if tb (nI t) l = true ∧ gdE w n (nI t) l = true then liK w n l t + wyK (w 6) (nI t) (nI l) n else liK w n l t
def gmK (w : Nat → Nat → Int32) (n m : Nat) : Nat → Int64
  | 0 => 0
  | t + 1 => if m ≤ gnE w n (nI t) then gmK w n m t + wyK (w 6) (nI t) (-1) n else gmK w n m t
def mlK (w : Nat → Nat → Int32) (n : Nat) : Nat → Int64
  | 0 => 0
  | t + 1 => mlK w n t + wyK (w 6) (nI t) (-1) n * (jbc (lfB (uE w n (nI t)))).toInt64
def shr (c ways all : Int64) : Int32 := (c * ways / all).toInt32
def s_odds (p : Int32) (μ : j_M) : Int32 × j_M := if inQ 12 p = true then (if μ.1 1 (ix p) = -1 then rj (-5) 5 μ else (shr 1000000 (odK μ.1 (nn μ) (ix p) (2 ^ nn μ)) (alK (-1) (nn μ)), μ)) else rj (-2) 2 μ
def s_likely (l : Int32) (μ : j_M) : Int32 × j_M := if inQ (nn μ) l = true then (shr 1000000 (liK μ.1 (nn μ) (ix l) (2 ^ nn μ)) (alK l (nn μ)), μ) else rj (-2) 2 μ
def s_gladOdds (m : Int32) (μ : j_M) : Int32 × j_M := if inQ 9 m = true then (shr 1000000 (gmK μ.1 (nn μ) (ix m) (2 ^ nn μ)) (alK (-1) (nn μ)), μ) else rj (-2) 2 μ
def s_meanLeft (μ : j_M) : Int32 × j_M := (shr 1000 (mlK μ.1 (nn μ) (2 ^ nn μ)) (alK (-1) (nn μ)), μ)

set_option maxRecDepth 100000 in
theorem c_X10_waysOf (t sk : Int32) (n : Nat) (μ : j_M) (hn : μ.1 0 1 = nI n) (hn8 : n ≤ 8) : Ct yX10_waysOf cX10_waysOf 6 (some .long) 1 ΛM [.ref 0, .int t, .int sk] μ (pJ fun r μ2 => r = wyK (μ.1 6) t sk n ∧ μ2 = μ) := by
  refine Ct.go (lo := [some (.ref 0), some (.int t), some (.int sk), none, none, none]) (by decide) (Nat.le_of_ble_eq_true rfl) rfl rfl (fun X F => ?_)
  have F : Fx X cX10_waysOf RX10 1 (some .long) ΛM := F
  refine v_lconst (pc := 0) (v := 1) F dX10_waysOf_0 (by decide) ?_
  refine v_lstore_n (pc := 1) (lo' := [some (.ref _), some (.int _), some (.int _), some (.long _), _, _]) F dX10_waysOf_1 rfl rfl (Nat.le_of_ble_eq_true rfl) rfl ?_
  refine v_iconst (pc := 2) (v := nI 0) F dX10_waysOf_2 (by decide) ?_
  refine v_istore (pc := 3) (lo' := [some (.ref _), some (.int _), some (.int _), some (.long _), _, some (.int _)]) F dX10_waysOf_3 rfl (Nat.le_of_ble_eq_true rfl) rfl ?_
  refine j_up n (fun k => V X _ 5 [some (.ref 0), some (.int t), some (.int sk), some (.long ((wyK (μ.1 6) t sk k))), none, some (.int (nI k))] [] μ) (fun k hk ih => ?_) 0 (Nat.zero_le _)
  refine v_iload (pc := 5) (i := 5) F dX10_waysOf_5 rfl ?_
  refine v_aload_n (pc := 7) (i := 0) F dX10_waysOf_7 rfl rfl ?_
  refine v_getI (pc := 8) F fX10_89 dX10_waysOf_8 rfl lm0 ?_
  refine v_topE (hn) ?_
  refine v_icmp_ge (pc := 11) (tgt := 60) F dX10_waysOf_11 (by decide) (fun h11_1 => ?_) (fun h11_1 => ?_)
  · rw [nI_leI (by omega) (by omega)] at h11_1
    refine v_lload_n (pc := 60) (i := 3) F dX10_waysOf_60 rfl rfl ?_
    refine v_lreturn (pc := 61) F dX10_waysOf_61 ?_
    have e : k = n := by omega
    subst e
    exact ⟨rfl, rfl⟩
  · rw [nI_leI (by omega) (by omega)] at h11_1
    refine v_iload (pc := 14) (i := 5) F dX10_waysOf_14 rfl ?_
    refine v_iload_n (pc := 16) (i := 2) F dX10_waysOf_16 rfl rfl ?_
    refine v_icmp_eq (pc := 17) (tgt := 54) F dX10_waysOf_17 (by decide) (fun hs => ?_) (fun hs => ?_)
    · skip
      refine v_iinc (pc := 54) (i := 5) (v := nI (k + 1)) (lo' := [some (.ref _), some (.int _), some (.int _), some (.long _), _, some (.int _)]) F dX10_waysOf_54 rfl (j_inc _) rfl rfl ?_
      refine v_goto (pc := 57) (tgt := 5) F dX10_waysOf_57 (by decide) ?_
      have q := ih (by omega)
      rw [wy_s hs] at q
      exact q
    · skip
      refine v_lload_n (pc := 20) (i := 3) F dX10_waysOf_20 rfl rfl ?_
      refine v_iload_n (pc := 21) (i := 1) F dX10_waysOf_21 rfl rfl ?_
      refine v_iload (pc := 22) (i := 5) F dX10_waysOf_22 rfl ?_
      refine v_callSI (pc := 24) (As := [_, _]) (rest := [_]) F mX10_in kX10_194 sm_X10_in dX10_waysOf_24 (c_X10_inN _ k (by omega) _) (by decide) rfl rfl (Nat.le_of_ble_eq_true rfl) (fun x3 μ3 hp3 => ?_)
      rw [hp3.1, hp3.2]
      refine v_if_eq (pc := 27) (tgt := 41) F dX10_waysOf_27 (by decide) (fun hb => ?_) (fun hb => ?_)
      · rw [b2i_0] at hb
        refine v_bipush (pc := 41) (v := nI 12) F dX10_waysOf_41 (by decide) ?_
        refine v_aload_n (pc := 43) (i := 0) F dX10_waysOf_43 rfl rfl ?_
        refine v_getR (pc := 44) (o := 6) F fX10_25 dX10_waysOf_44 rfl lm0 ?_
        refine v_topR (y := 6) rfl ?_
        refine v_iload (pc := 47) (i := 5) F dX10_waysOf_47 rfl ?_
        refine v_ialdN (pc := 49) (k0 := k) F dX10_waysOf_49 (lm10_6 lm0) (rfl) (by omega) (by decide) ?_
        refine v_isub (pc := 50) F dX10_waysOf_50 ?_
        refine v_i2l (pc := 51) F dX10_waysOf_51 ?_
        refine v_lmul (pc := 52) F dX10_waysOf_52 ?_
        refine v_lstore_n (pc := 53) (lo' := [some (.ref _), some (.int _), some (.int _), some (.long _), _, some (.int _)]) F dX10_waysOf_53 rfl rfl (Nat.le_of_ble_eq_true rfl) rfl ?_
        refine v_iinc (pc := 54) (i := 5) (v := nI (k + 1)) (lo' := [some (.ref _), some (.int _), some (.int _), some (.long _), _, some (.int _)]) F dX10_waysOf_54 rfl (j_inc _) rfl rfl ?_
        refine v_goto (pc := 57) (tgt := 5) F dX10_waysOf_57 (by decide) ?_
        have q := ih (by omega)
        rw [wy_f hs hb] at q
        exact q
      · rw [b2i_0] at hb
        rw [Classical.not_not] at hb
        refine v_aload_n (pc := 30) (i := 0) F dX10_waysOf_30 rfl rfl ?_
        refine v_getR (pc := 31) (o := 6) F fX10_25 dX10_waysOf_31 rfl lm0 ?_
        refine v_topR (y := 6) rfl ?_
        refine v_iload (pc := 34) (i := 5) F dX10_waysOf_34 rfl ?_
        refine v_ialdN (pc := 36) (k0 := k) F dX10_waysOf_36 (lm10_6 lm0) (rfl) (by omega) (by decide) ?_
        refine v_i2l (pc := 37) F dX10_waysOf_37 ?_
        refine v_goto (pc := 38) (tgt := 52) F dX10_waysOf_38 (by decide) ?_
        refine v_lmul (pc := 52) F dX10_waysOf_52 ?_
        refine v_lstore_n (pc := 53) (lo' := [some (.ref _), some (.int _), some (.int _), some (.long _), _, some (.int _)]) F dX10_waysOf_53 rfl rfl (Nat.le_of_ble_eq_true rfl) rfl ?_
        refine v_iinc (pc := 54) (i := 5) (v := nI (k + 1)) (lo' := [some (.ref _), some (.int _), some (.int _), some (.long _), _, some (.int _)]) F dX10_waysOf_54 rfl (j_inc _) rfl rfl ?_
        refine v_goto (pc := 57) (tgt := 5) F dX10_waysOf_57 (by decide) ?_
        have q := ih (by omega)
        rw [wy_t hs hb] at q
        exact q

set_option maxRecDepth 100000 in
theorem c_X10_allWays (sk : Int32) (n : Nat) (μ : j_M) (hn : μ.1 0 1 = nI n) (hn8 : n ≤ 8) : Ct yX10_allWays cX10_allWays 5 (some .long) 0 ΛM [.ref 0, .int sk] μ (pJ fun r μ2 => r = alK sk n ∧ μ2 = μ) := by
  refine Ct.go (lo := [some (.ref 0), some (.int sk), none, none, none]) (by decide) (Nat.le_of_ble_eq_true rfl) rfl rfl (fun X F => ?_)
  have F : Fx X cX10_allWays RX10 0 (some .long) ΛM := F
  refine v_lconst (pc := 0) (v := 1) F dX10_allWays_0 (by decide) ?_
  refine v_lstore_n (pc := 1) (lo' := [some (.ref _), some (.int _), some (.long _), _, _]) F dX10_allWays_1 rfl rfl (Nat.le_of_ble_eq_true rfl) rfl ?_
  refine v_iconst (pc := 2) (v := nI 0) F dX10_allWays_2 (by decide) ?_
  refine v_istore (pc := 3) (lo' := [some (.ref _), some (.int _), some (.long _), _, some (.int _)]) F dX10_allWays_3 rfl (Nat.le_of_ble_eq_true rfl) rfl ?_
  refine j_up n (fun k => V X _ 5 [some (.ref 0), some (.int sk), some (.long ((alK sk k))), none, some (.int (nI k))] [] μ) (fun k hk ih => ?_) 0 (Nat.zero_le _)
  refine v_iload (pc := 5) (i := 4) F dX10_allWays_5 rfl ?_
  refine v_aload_n (pc := 7) (i := 0) F dX10_allWays_7 rfl rfl ?_
  refine v_getI (pc := 8) F fX10_89 dX10_allWays_8 rfl lm0 ?_
  refine v_topE (hn) ?_
  refine v_icmp_ge (pc := 11) (tgt := 32) F dX10_allWays_11 (by decide) (fun h11_1 => ?_) (fun h11_1 => ?_)
  · rw [nI_leI (by omega) (by omega)] at h11_1
    refine v_lload_n (pc := 32) (i := 2) F dX10_allWays_32 rfl rfl ?_
    refine v_lreturn (pc := 33) F dX10_allWays_33 ?_
    have e : k = n := by omega
    subst e
    exact ⟨rfl, rfl⟩
  · rw [nI_leI (by omega) (by omega)] at h11_1
    refine v_iload (pc := 14) (i := 4) F dX10_allWays_14 rfl ?_
    refine v_iload_n (pc := 16) (i := 1) F dX10_allWays_16 rfl rfl ?_
    refine v_icmp_eq (pc := 17) (tgt := 26) F dX10_allWays_17 (by decide) (fun hs => ?_) (fun hs => ?_)
    · skip
      refine v_iinc (pc := 26) (i := 4) (v := nI (k + 1)) (lo' := [some (.ref _), some (.int _), some (.long _), _, some (.int _)]) F dX10_allWays_26 rfl (j_inc _) rfl rfl ?_
      refine v_goto (pc := 29) (tgt := 5) F dX10_allWays_29 (by decide) ?_
      have q := ih (by omega)
      rw [al_s hs] at q
      exact q
    · skip
      refine v_lload_n (pc := 20) (i := 2) F dX10_allWays_20 rfl rfl ?_
      refine v_ldc2 (pc := 21) F dX10_allWays_21 kcX10_255 ?_
      refine v_lmul (pc := 24) F dX10_allWays_24 ?_
      refine v_lstore_n (pc := 25) (lo' := [some (.ref _), some (.int _), some (.long _), _, some (.int _)]) F dX10_allWays_25 rfl rfl (Nat.le_of_ble_eq_true rfl) rfl ?_
      refine v_iinc (pc := 26) (i := 4) (v := nI (k + 1)) (lo' := [some (.ref _), some (.int _), some (.long _), _, some (.int _)]) F dX10_allWays_26 rfl (j_inc _) rfl rfl ?_
      refine v_goto (pc := 29) (tgt := 5) F dX10_allWays_29 (by decide) ?_
      have q := ih (by omega)
      rw [al_f hs] at q
      exact q
