/-! the reference's public methods: twice, who, judge -/
def anK (P : Nat → Bool) : Nat → Int32
  | 0 => -1
  | k + 1 => if P k = true then anK P k &&& nI k else anK P k
def orK (P : Nat → Bool) : Nat → Int32
  | 0 => 0
  | k + 1 => if P k = true then orK P k ||| nI k else orK P k
def dX (N k : Nat) : Int32 := if k < N then nI (N - 1 - k) else -1
def dC (P : Nat → Bool) (N : Nat) : Nat → Nat
  | 0 => 0
  | k + 1 => if P (N - 1 - k) = true then dC P N k + 1 else dC P N k
def dL (P : Nat → Bool) (N : Nat) : Nat → Int32
  | 0 => -1
  | k + 1 => if P (N - 1 - k) = true then nI (N - 1 - k) else dL P N k
def dA (P : Nat → Bool) (N : Nat) : Nat → Int32
  | 0 => -1
  | k + 1 => if P (N - 1 - k) = true then dA P N k &&& nI (N - 1 - k) else dA P N k
def dO (P : Nat → Bool) (N : Nat) : Nat → Int32
  | 0 => 0
  | k + 1 => if P (N - 1 - k) = true then dO P N k ||| nI (N - 1 - k) else dO P N k
theorem m1_and (a : Int32) : -1 &&& a = a := tb_ext (fun i hi => by rw [tb_and, tb_m1]; simp; exact hi)
theorem dC_end {P : Nat → Bool} {N : Nat} : ∀ k, k ≤ N → cK P (N - k) + dC P N k = cK P N := by
  intro k
  induction k with
  | zero => intro _; rfl
  | succ k ih =>
    intro h
    rw [← ih (by omega), show N - k = N - 1 - k + 1 by omega, show N - (k + 1) = N - 1 - k by omega]
    by_cases hp : P (N - 1 - k) = true
    · rw [cK_t hp, show dC P N (k + 1) = dC P N k + 1 from if_pos hp]; omega
    · rw [cK_f hp, show dC P N (k + 1) = dC P N k from if_neg hp]
theorem dL_end {P : Nat → Bool} {N : Nat} : ∀ k, k ≤ N → (match fN P (N - k) with | some j => nI j | none => dL P N k) = o2i (fN P N) := by
  intro k
  induction k with
  | zero =>
    intro _
    rw [Nat.sub_zero]
    rcases e : fN P N with _ | j <;> rfl
  | succ k ih =>
    intro h
    rw [← ih (by omega)]
    rcases e : fN P (N - (k + 1)) with _ | j
    · have h0 := fN_none_iff.mp e
      by_cases hp : P (N - 1 - k) = true
      · rw [fN_some (k := N - 1 - k) (by omega) hp (fun j hj => h0 j (by omega))]
        exact if_pos hp
      · rw [fN_none (fun j hj => by
          by_cases ej : j = N - 1 - k
          · rw [ej]; simpa using hp
          · exact h0 j (by omega))]
        exact if_neg hp
    · obtain ⟨h1, h2, h3⟩ := fN_spec e
      rw [fN_some (k := j) (by omega) h2 h3]
theorem dA_end {P : Nat → Bool} {N : Nat} : ∀ k, k ≤ N → anK P (N - k) &&& dA P N k = anK P N := by
  intro k
  induction k with
  | zero => intro _; exact (show anK P N &&& -1 = anK P N from tb_ext (fun i hi => by rw [tb_and, tb_m1]; simp; exact hi))
  | succ k ih =>
    intro h
    rw [← ih (by omega), show N - k = N - 1 - k + 1 by omega, show N - (k + 1) = N - 1 - k by omega]
    by_cases hp : P (N - 1 - k) = true
    · rw [show dA P N (k + 1) = dA P N k &&& nI (N - 1 - k) from if_pos hp, show anK P (N - 1 - k + 1) = anK P (N - 1 - k) &&& nI (N - 1 - k) from if_pos hp]
      exact tb_ext (fun i _ => by simp only [tb_and]; cases tb (anK P (N - 1 - k)) i <;> cases tb (dA P N k) i <;> simp)
    · rw [show dA P N (k + 1) = dA P N k from if_neg hp, show anK P (N - 1 - k + 1) = anK P (N - 1 - k) from if_neg hp]
theorem dO_end {P : Nat → Bool} {N : Nat} : ∀ k, k ≤ N → orK P (N - k) ||| dO P N k = orK P N := by
  intro k
  induction k with
  | zero => intro _; exact (show orK P N ||| 0 = orK P N from tb_ext (fun i _ => by rw [tb_or, tb_0]; simp))
  | succ k ih =>
    intro h
    rw [← ih (by omega), show N - k = N - 1 - k + 1 by omega, show N - (k + 1) = N - 1 - k by omega]
    by_cases hp : P (N - 1 - k) = true
    · rw [show dO P N (k + 1) = dO P N k ||| nI (N - 1 - k) from if_pos hp, show orK P (N - 1 - k + 1) = orK P (N - 1 - k) ||| nI (N - 1 - k) from if_pos hp]
      exact tb_ext (fun i _ => by simp only [tb_or]; cases tb (orK P (N - 1 - k)) i <;> cases tb (dO P N k) i <;> simp)
    · rw [show dO P N (k + 1) = dO P N k from if_neg hp, show orK P (N - 1 - k + 1) = orK P (N - 1 - k) from if_neg hp]
theorem dC_e {P : Nat → Bool} {N : Nat} : dC P N N = cK P N := by have := dC_end (P := P) N (Nat.le_refl N); rw [Nat.sub_self] at this; simpa [cK] using this
theorem dL_e {P : Nat → Bool} {N : Nat} : dL P N N = o2i (fN P N) := by have := dL_end (P := P) N (Nat.le_refl N); rw [Nat.sub_self] at this; exact this
theorem dA_e {P : Nat → Bool} {N : Nat} : dA P N N = anK P N := by have := dA_end (P := P) N (Nat.le_refl N); rw [Nat.sub_self] at this; rw [← this]; exact (m1_and _).symm
theorem dO_e {P : Nat → Bool} {N : Nat} : dO P N N = orK P N := by have := dO_end (P := P) N (Nat.le_refl N); rw [Nat.sub_self] at this; rw [← this]; exact (zero_or _).symm
theorem d4_t {P : Nat → Bool} {N k : Nat} (h : P (N - 1 - k) = true) : dC P N (k + 1) = dC P N k + 1 ∧ dL P N (k + 1) = nI (N - 1 - k) ∧ dA P N (k + 1) = dA P N k &&& nI (N - 1 - k) ∧ dO P N (k + 1) = dO P N k ||| nI (N - 1 - k) := ⟨if_pos h, if_pos h, if_pos h, if_pos h⟩
theorem d4_m {P : Nat → Bool} {N k : Nat} (h : P (N - 1 - k) = true) (ha : dA P N k = -1) : dA P N (k + 1) = nI (N - 1 - k) := (d4_t h).2.2.1.trans (by rw [ha, m1_and])
theorem d4_f {P : Nat → Bool} {N k : Nat} (h : ¬ P (N - 1 - k) = true) : dC P N (k + 1) = dC P N k ∧ dL P N (k + 1) = dL P N k ∧ dA P N (k + 1) = dA P N k ∧ dO P N (k + 1) = dO P N k := ⟨if_neg h, if_neg h, if_neg h, if_neg h⟩
theorem dX_lt {N k : Nat} (h : k < N) : dX N k = nI (N - 1 - k) := if_pos h
theorem dX_ge {N k : Nat} (h : N ≤ k) : dX N k = -1 := if_neg (by omega)
theorem dX_s {N k : Nat} (h : k < N) : nI (N - 1 - k) + Int32.ofInt (-1) = dX N (k + 1) := by
  by_cases e : k + 1 < N
  · rw [dX_lt e, show N - 1 - k = (N - 1 - (k + 1)) + 1 by omega, ← nI_add]
    rw [Int32.add_assoc, show nI 1 + Int32.ofInt (-1) = 0 from by decide, Int32.add_zero]
  · rw [dX_ge (by omega), show N - 1 - k = 0 by omega]; rfl
def whP (w : Nat → Nat → Int32) (n : Nat) (left : Int32) (t : Nat) : Bool := lfB (uE w n (nI t)) == left
theorem whP_t {w : Nat → Nat → Int32} {n t : Nat} {left : Int32} (h : lfB (goU w (OO w n (nI t)) (w 1)) = left) : whP w n left t = true := by unfold whP uE; rw [h]; exact beq_self_eq_true _
theorem whP_f {w : Nat → Nat → Int32} {n t : Nat} {left : Int32} (h : ¬ lfB (goU w (OO w n (nI t)) (w 1)) = left) : ¬ whP w n left t = true := fun e => h (eq_of_beq e)
def s_who (left what : Int32) (μ : j_M) : Int32 × j_M := if inQ 4096 left = true then (if inQ 4 what = true then (if what = 0 then (nI (cK (whP μ.1 (nn μ) left) (2 ^ nn μ)), μ) else if what = 1 then (o2i (fN (whP μ.1 (nn μ) left) (2 ^ nn μ)), μ) else if what = 2 then (anK (whP μ.1 (nn μ) left) (2 ^ nn μ), μ) else (orK (whP μ.1 (nn μ) left) (2 ^ nn μ), μ)) else rj (-2) 2 μ) else rj (-2) 2 μ

set_option maxRecDepth 100000 in
theorem c_X10_twice (set then_ : Int32) (μ : j_M) (hM : MI μ) : Ct yX10_twice cX10_twice 4 (some .int) 5 ΛM [.ref 0, .int set, .int then_] μ (pI fun r μ2 => r = (s_twice set then_ μ).1 ∧ Fm PS (s_twice set then_ μ).2 μ2) := by
  refine Ct.go (lo := [some (.ref 0), some (.int set), some (.int then_), none]) (by decide) (Nat.le_of_ble_eq_true rfl) rfl rfl (fun X F => ?_)
  have F : Fx X cX10_twice RX10 5 (some .int) ΛM := F
  obtain ⟨n, hW, hsh, htp, him⟩ := id hM
  have hn := hW.1
  have hn8 := hW.2.1
  have hnn := nn_eq hn hn8
  have ho := hW.own
  have hrw : RW μ.1 n μ := RW.self hn
  have hpw := j_pw hn8
  refine v_aload_n (pc := 0) (i := 0) F dX10_twice_0 rfl rfl ?_
  refine v_iload_n (pc := 1) (i := 1) F dX10_twice_1 rfl rfl ?_
  refine v_callVI (pc := 2) (As := [_]) (rest := []) (c := 10) F mX10_isSet kX10_234 im_X10_isSet se_X10_isSet dX10_twice_2 rfl rfl (by decide) (c_X10_isSet _ n _ (by first | exact hn | assumption) hn8) (by decide) rfl rfl (Nat.le_of_ble_eq_true rfl) lm0 (fun x1 μ1 hp1 => ?_)
  rw [hp1.1, hp1.2]
  refine v_if_eq (pc := 5) (tgt := 16) F dX10_twice_5 (by decide) (fun h5_2 => ?_) (fun h5_2 => ?_)
  · rw [b2i_0] at h5_2
    refine v_aload_n (pc := 16) (i := 0) F dX10_twice_16 rfl rfl ?_
    refine v_bipush (pc := 17) (v := (-2)) F dX10_twice_17 (by decide) ?_
    refine v_callVI (pc := 19) (As := [_]) (rest := []) (c := 10) F mX10_no kX10_96 im_X10_no se_X10_no dX10_twice_19 rfl rfl (by decide) (c_X10_no (-2) 2 (by decide) (by decide) _) (by decide) rfl rfl (Nat.le_of_ble_eq_true rfl) lm0 (fun x3 μ3 hp3 => ?_)
    rw [hp3.1, hp3.2]
    refine v_ireturn (pc := 22) F dX10_twice_22 (rfl) ?_
    simp only [s_twice, rj, hnn, h5_2, ↓reduceIte]
    refine ⟨?_, ?_⟩ <;> first | exact trivial | exact rfl | exact Fm.rf
  · rw [b2i_0] at h5_2
    rw [Classical.not_not] at h5_2
    refine v_aload_n (pc := 8) (i := 0) F dX10_twice_8 rfl rfl ?_
    refine v_iload_n (pc := 9) (i := 2) F dX10_twice_9 rfl rfl ?_
    refine v_callVI (pc := 10) (As := [_]) (rest := []) (c := 10) F mX10_isSet kX10_234 im_X10_isSet se_X10_isSet dX10_twice_10 rfl rfl (by decide) (c_X10_isSet _ n _ (by first | exact hn | assumption) hn8) (by decide) rfl rfl (Nat.le_of_ble_eq_true rfl) lm0 (fun x4 μ4 hp4 => ?_)
    rw [hp4.1, hp4.2]
    refine v_if_ne (pc := 13) (tgt := 23) F dX10_twice_13 (by decide) (fun h13_5 => ?_) (fun h13_5 => ?_)
    · rw [b2i_0] at h13_5
      rw [Classical.not_not] at h13_5
      refine v_aload_n (pc := 23) (i := 0) F dX10_twice_23 rfl rfl ?_
      refine v_iload_n (pc := 24) (i := 1) F dX10_twice_24 rfl rfl ?_
      refine v_callVV (pc := 25) (As := [_]) (rest := []) (c := 10) F mX10_runs kX10_117 im_X10_runs se_X10_runs dX10_twice_25 rfl rfl (by decide) (c_X10_runs _ n μ.1 _ hrw hn8 ho) (by decide) rfl rfl (Nat.le_of_ble_eq_true rfl) lm0 (fun μ6 hp6 => ?_)
      have hq := hp6
      have hw2 := hrw.keep hq.1
      generalize μ6 = μ' at hq hw2 ⊢
      refine v_iconst (pc := 28) (v := nI 0) F dX10_twice_28 (by decide) ?_
      refine v_istore_n (pc := 29) (lo' := [some (.ref _), some (.int _), some (.int _), some (.int _)]) F dX10_twice_29 rfl rfl (Nat.le_of_ble_eq_true rfl) rfl ?_
      refine j_up 8 (fun k => ∀ μ'' : j_M, (Fm PB μ' μ'' ∧ ∀ p, p < 12 → μ''.1 16 p = μ'.1 16 p) → V X _ 30 [some (.ref 0), some (.int set), some (.int then_), some (.int (nI k))] [] μ'') (fun k hk ih μ'' hJ => ?_) 0 (Nat.zero_le _) μ' (⟨Fm.rf, fun p hp => rfl⟩)
      refine v_iload_n (pc := 30) (i := 3) F dX10_twice_30 rfl rfl ?_
      refine v_bipush (pc := 31) (v := nI 8) F dX10_twice_31 (by decide) ?_
      refine v_icmp_ge (pc := 33) (tgt := 49) F dX10_twice_33 (by decide) (fun h33_7 => ?_) (fun h33_7 => ?_)
      · rw [nI_leI (by omega) (by omega)] at h33_7
        refine v_aload_n (pc := 49) (i := 0) F dX10_twice_49 rfl rfl ?_
        refine v_iload_n (pc := 50) (i := 2) F dX10_twice_50 rfl rfl ?_
        refine v_callVV (pc := 51) (As := [_]) (rest := []) (c := 10) F mX10_orders kX10_222 im_X10_orders se_X10_orders dX10_twice_51 rfl rfl (by decide) (c_X10_orders then_ n μ'' ((hJ.1.1 0 1 (by omega)).trans hw2.2) hn8) (by decide) rfl rfl (Nat.le_of_ble_eq_true rfl) lm0 (fun μ8 hp8 => ?_)
        have hq2 := hp8
        have e4 : μ''.1 4 = μ.1 4 := by funext j; rw [hJ.1.1 4 j (by omega)]; exact hq.1.1 4 j (by omega)
        rw [e4] at hq2
        obtain ⟨O2, hO2⟩ : ∃ O2, O2 = (OO μ.1 n then_) := ⟨_, rfl⟩
        rw [show ordO (μ.1 4) (tb then_) n = O2 from hO2.symm] at hq2
        have hOl : O2.length ≤ n := by rw [hO2, ordO_len]; exact cK_le _ _
        have hOm : ∀ j, j < O2.length → O2.getD j 0 < n := fun j hj => (ordO_mem.mp (by rw [show ordO (μ.1 4) (tb then_) n = O2 from hO2.symm]; exact getD_mem hj : O2.getD j 0 ∈ ordO (μ.1 4) (tb then_) n)).1
        have hF3 : Fm PB μ μ8 := hq.1.tr (hJ.1.tr (hq2.1.mono (fun c j q => by unfold PO at q; unfold PB; omega)))
        have h16 : ∀ p, p < 12 → (μ8).1 16 p = uE μ.1 n set p := fun p hp => by rw [hq2.1.1 16 p (by unfold PO; omega), hJ.2 p hp]; exact hq.2.1 p hp
        generalize μ8 = μ3 at hq2 hF3 h16 ⊢
        refine v_iconst (pc := 54) (v := nI 0) F dX10_twice_54 (by decide) ?_
        refine v_istore_n (pc := 55) (lo' := [some (.ref _), some (.int _), some (.int _), some (.int _)]) F dX10_twice_55 rfl rfl (Nat.le_of_ble_eq_true rfl) rfl ?_
        refine j_up O2.length (fun k => ∀ μ4 : j_M, (Fm PB μ μ4 ∧ μ4.1 0 25 = nI O2.length ∧ OR (μ4.1 17) O2 ∧ ∀ p, p < 12 → μ4.1 16 p = goU μ.1 (O2.take k) (uE μ.1 n set) p) → V X _ 56 [some (.ref 0), some (.int set), some (.int then_), some (.int (nI k))] [] μ4) (fun k hk ih μ4 hI => ?_) 0 (Nat.zero_le _) μ3 (⟨hF3, hq2.2.1, hq2.2.2, fun p hp => h16 p hp⟩)
        refine v_iload_n (pc := 56) (i := 3) F dX10_twice_56 rfl rfl ?_
        refine v_aload_n (pc := 57) (i := 0) F dX10_twice_57 rfl rfl ?_
        refine v_getI (pc := 58) F fX10_219 dX10_twice_58 rfl lm0 ?_
        refine v_topE (hI.2.1) ?_
        refine v_icmp_ge (pc := 61) (tgt := 80) F dX10_twice_61 (by decide) (fun h61_9 => ?_) (fun h61_9 => ?_)
        · rw [nI_leI (by omega) (by omega)] at h61_9
          refine v_aload_n (pc := 80) (i := 0) F dX10_twice_80 rfl rfl ?_
          refine v_callVI (pc := 81) (As := []) (rest := []) (c := 10) F mX10_leftThen kX10_237 im_X10_leftThen se_X10_leftThen dX10_twice_81 rfl rfl (by decide) (c_X10_leftThen _) (by decide) rfl rfl (Nat.le_of_ble_eq_true rfl) lm0 (fun x10 μ10 hp10 => ?_)
          rw [hp10.1, hp10.2]
          refine v_ireturn (pc := 84) F dX10_twice_84 (rfl) ?_
          have e : k = O2.length := by omega
          rw [e, List.take_length] at hI
          simp only [s_twice, hnn, h5_2, h13_5, h33_7, h61_9, ↓reduceIte]
          refine ⟨?_, PB_PS hI.1⟩
          rw [bK_congr (Q := fun p => !(goU μ.1 O2 (uE μ.1 n set) p == -1)) (fun p hp => by simp only [hI.2.2.2 p hp]), hO2]
          rfl
        · rw [nI_leI (by omega) (by omega)] at h61_9
          refine v_aload_n (pc := 64) (i := 0) F dX10_twice_64 rfl rfl ?_
          refine v_aload_n (pc := 65) (i := 0) F dX10_twice_65 rfl rfl ?_
          refine v_getR (pc := 66) (o := 17) F fX10_59 dX10_twice_66 rfl lm0 ?_
          refine v_topR (y := 17) rfl ?_
          refine v_iload_n (pc := 69) (i := 3) F dX10_twice_69 rfl rfl ?_
          refine v_ialdN (pc := 70) (k0 := k) F dX10_twice_70 (lm10_26 lm0) (rfl) (by omega) (by decide) ?_
          refine v_topE (y := nI (O2.getD k 0)) (hI.2.2.1 k (by omega)) ?_
          have hlk := hOm k (by omega)
          refine v_callVV (pc := 71) (As := [_]) (rest := []) (c := 10) F mX10_lookerGoes kX10_228 im_X10_lookerGoes se_X10_lookerGoes dX10_twice_71 rfl rfl (by decide) (c_X10_lookerGoes (O2.getD k 0) (by omega) _ (by rw [(hrw.keep hI.1).1 3 (by omega) (by omega)]; exact ho _ hlk)) (by decide) rfl rfl (Nat.le_of_ble_eq_true rfl) lm0 (fun μ11 hp11 => ?_)
          rw [hp11]
          refine v_iinc (pc := 74) (i := 3) (v := nI (k + 1)) (lo' := [some (.ref _), some (.int _), some (.int _), some (.int _)]) F dX10_twice_74 rfl (j_inc _) rfl rfl ?_
          refine v_goto (pc := 77) (tgt := 56) F dX10_twice_77 (by decide) ?_
          have hww := hrw.keep hI.1
          refine ih (by omega) _ ⟨m_tkL_F hI.1, ?_, fun j hj => ?_, fun p hp => ?_⟩
          · rw [m_tkL_c (by decide)]; exact hI.2.1
          · rw [m_tkL_c (by decide)]; exact hI.2.2.1 j hj
          · rw [take_snoc (by omega), goU_app, m_tkL_16, hww.1 2 (by omega) (by omega), hww.1 3 (by omega) (by omega), hww.1 5 (by omega) (by omega), tk_congr hI.2.2.2]
            exact rmL_congr hI.2.2.2 p hp
      · rw [nI_leI (by omega) (by omega)] at h33_7
        refine v_aload_n (pc := 36) (i := 0) F dX10_twice_36 rfl rfl ?_
        refine v_getR (pc := 37) (o := 18) F fX10_62 dX10_twice_37 rfl lm0 ?_
        refine v_topR (y := 18) rfl ?_
        refine v_iload_n (pc := 40) (i := 3) F dX10_twice_40 rfl rfl ?_
        refine v_iconst (pc := 41) (v := nI 0) F dX10_twice_41 (by decide) ?_
        refine v_iastN (pc := 42) (k0 := k) F dX10_twice_42 (lm10_27 lm0) (rfl) (by omega) (by decide) ?_
        refine v_iinc (pc := 43) (i := 3) (v := nI (k + 1)) (lo' := [some (.ref _), some (.int _), some (.int _), some (.int _)]) F dX10_twice_43 rfl (j_inc _) rfl rfl ?_
        refine v_goto (pc := 46) (tgt := 30) F dX10_twice_46 (by decide) ?_
        refine ih (by omega) _ ⟨hJ.1.pI (by omega), fun p hp => ?_⟩
        rw [j_pI_ne (by decide)]; exact hJ.2 p hp
    · rw [b2i_0] at h13_5
      refine v_aload_n (pc := 16) (i := 0) F dX10_twice_16 rfl rfl ?_
      refine v_bipush (pc := 17) (v := (-2)) F dX10_twice_17 (by decide) ?_
      refine v_callVI (pc := 19) (As := [_]) (rest := []) (c := 10) F mX10_no kX10_96 im_X10_no se_X10_no dX10_twice_19 rfl rfl (by decide) (c_X10_no (-2) 2 (by decide) (by decide) _) (by decide) rfl rfl (Nat.le_of_ble_eq_true rfl) lm0 (fun x12 μ12 hp12 => ?_)
      rw [hp12.1, hp12.2]
      refine v_ireturn (pc := 22) F dX10_twice_22 (rfl) ?_
      simp only [s_twice, rj, hnn, h5_2, h13_5, ↓reduceIte]
      refine ⟨?_, ?_⟩ <;> first | exact trivial | exact rfl | exact Fm.rf

set_option maxRecDepth 100000 in
theorem c_X10_who (left what : Int32) (μ : j_M) (hM : MI μ) : Ct yX10_who cX10_who 8 (some .int) 6 ΛM [.ref 0, .int left, .int what] μ (pI fun r μ2 => r = (s_who left what μ).1 ∧ Fm PS (s_who left what μ).2 μ2) := by
  refine Ct.go (lo := [some (.ref 0), some (.int left), some (.int what), none, none, none, none, none]) (by decide) (Nat.le_of_ble_eq_true rfl) rfl rfl (fun X F => ?_)
  have F : Fx X cX10_who RX10 6 (some .int) ΛM := F
  obtain ⟨n, hW, hsh, htp, him⟩ := id hM
  have hn := hW.1
  have hn8 := hW.2.1
  have hnn := nn_eq hn hn8
  have ho := hW.own
  have hrw : RW μ.1 n μ := RW.self hn
  have hpw := j_pw hn8
  refine v_iload_n (pc := 0) (i := 1) F dX10_who_0 rfl rfl ?_
  refine v_callSI (pc := 1) (As := [_]) (rest := []) F mX10_arePlaces kX10_252 sm_X10_arePlaces dX10_who_1 (c_X10_arePlaces _ _) (by decide) rfl rfl (Nat.le_of_ble_eq_true rfl) (fun x1 μ1 hp1 => ?_)
  rw [hp1.1, hp1.2]
  refine v_if_eq (pc := 4) (tgt := 16) F dX10_who_4 (by decide) (fun h4_2 => ?_) (fun h4_2 => ?_)
  · rw [b2i_0] at h4_2
    refine v_aload_n (pc := 16) (i := 0) F dX10_who_16 rfl rfl ?_
    refine v_bipush (pc := 17) (v := (-2)) F dX10_who_17 (by decide) ?_
    refine v_callVI (pc := 19) (As := [_]) (rest := []) (c := 10) F mX10_no kX10_96 im_X10_no se_X10_no dX10_who_19 rfl rfl (by decide) (c_X10_no (-2) 2 (by decide) (by decide) _) (by decide) rfl rfl (Nat.le_of_ble_eq_true rfl) lm0 (fun x3 μ3 hp3 => ?_)
    rw [hp3.1, hp3.2]
    refine v_ireturn (pc := 22) F dX10_who_22 (rfl) ?_
    simp only [s_who, rj, hnn, h4_2, ↓reduceIte]
    refine ⟨?_, ?_⟩ <;> first | exact trivial | exact rfl | exact Fm.rf
  · rw [b2i_0] at h4_2
    rw [Classical.not_not] at h4_2
    refine v_iload_n (pc := 7) (i := 2) F dX10_who_7 rfl rfl ?_
    refine v_iconst (pc := 8) (v := nI 0) F dX10_who_8 (by decide) ?_
    refine v_iconst (pc := 9) (v := nI 3) F dX10_who_9 (by decide) ?_
    refine v_callSI (pc := 10) (As := [_, _, _]) (rest := []) F mX10_within kX10_85 sm_X10_within dX10_who_10 (c_X10_withinR _ 3 4 rfl (by decide) _) (by decide) rfl rfl (Nat.le_of_ble_eq_true rfl) (fun x4 μ4 hp4 => ?_)
    rw [hp4.1, hp4.2]
    refine v_if_ne (pc := 13) (tgt := 23) F dX10_who_13 (by decide) (fun h13_5 => ?_) (fun h13_5 => ?_)
    · rw [b2i_0] at h13_5
      rw [Classical.not_not] at h13_5
      obtain ⟨k_what, hk_what, he_what⟩ := inR_of (by decide) h13_5
      subst he_what
      have ek_what : ix (nI k_what) = k_what := nI_clamp (by omega)
      refine v_iconst (pc := 23) (v := nI 0) F dX10_who_23 (by decide) ?_
      refine v_istore_n (pc := 24) (lo' := [some (.ref _), some (.int _), some (.int _), some (.int _), _, _, _, _]) F dX10_who_24 rfl rfl (Nat.le_of_ble_eq_true rfl) rfl ?_
      refine v_iconst (pc := 25) (v := (-1)) F dX10_who_25 (by decide) ?_
      refine v_istore (pc := 26) (lo' := [some (.ref _), some (.int _), some (.int _), some (.int _), some (.int _), _, _, _]) F dX10_who_26 rfl (Nat.le_of_ble_eq_true rfl) rfl ?_
      refine v_iconst (pc := 28) (v := (-1)) F dX10_who_28 (by decide) ?_
      refine v_istore (pc := 29) (lo' := [some (.ref _), some (.int _), some (.int _), some (.int _), some (.int _), some (.int _), _, _]) F dX10_who_29 rfl (Nat.le_of_ble_eq_true rfl) rfl ?_
      refine v_iconst (pc := 31) (v := nI 0) F dX10_who_31 (by decide) ?_
      refine v_istore (pc := 32) (lo' := [some (.ref _), some (.int _), some (.int _), some (.int _), some (.int _), some (.int _), some (.int _), _]) F dX10_who_32 rfl (Nat.le_of_ble_eq_true rfl) rfl ?_
      refine v_iconst (pc := 34) (v := nI 1) F dX10_who_34 (by decide) ?_
      refine v_aload_n (pc := 35) (i := 0) F dX10_who_35 rfl rfl ?_
      refine v_getI (pc := 36) F fX10_89 dX10_who_36 rfl lm0 ?_
      refine v_topE (hn) ?_
      refine v_ishl (pc := 39) F dX10_who_39 ?_
      refine v_topE (y := nI (2 ^ n)) (j_pow hn8) ?_
      refine v_iconst (pc := 40) (v := nI 1) F dX10_who_40 (by decide) ?_
      refine v_isub (pc := 41) F dX10_who_41 ?_
      refine v_topE (pk_sub (by omega)) ?_
      skip
      · skip
        rw [show nI (2 ^ n - 1) = dX (2 ^ n) 0 from (dX_lt (N := 2 ^ n) (k := 0) (by omega)).symm]
        refine v_istore (pc := 42) (lo' := [some (.ref _), some (.int _), some (.int _), some (.int _), some (.int _), some (.int _), some (.int _), some (.int _)]) F dX10_who_42 rfl (Nat.le_of_ble_eq_true rfl) rfl ?_
        refine j_up ((2 ^ n)) (fun k => ∀ μ' : j_M, (Fm PB μ μ') → V X _ 44 [some (.ref 0), some (.int left), some (.int (nI k_what)), some (.int (nI (dC (whP μ.1 n left) (2 ^ n) k))), some (.int ((dL (whP μ.1 n left) (2 ^ n) k))), some (.int ((dA (whP μ.1 n left) (2 ^ n) k))), some (.int ((dO (whP μ.1 n left) (2 ^ n) k))), some (.int ((dX (2 ^ n) k)))] [] μ') (fun k hk ih μ' hI => ?_) 0 (Nat.zero_le _) μ (Fm.rf)
        refine v_iload (pc := 44) (i := 7) F dX10_who_44 rfl ?_
        rcases Nat.lt_or_ge k (2 ^ n) with hk2 | hk2
        · skip
          rw [dX_lt hk2]
          refine v_if_lt (pc := 46) (tgt := 104) F dX10_who_46 (by decide) (fun h46_6 => ?_) (fun h46_6 => ?_)
          · rw [j_lt0 (by omega)] at h46_6
            exact h46_6.elim
          · rw [j_lt0 (by omega)] at h46_6
            refine v_aload_n (pc := 49) (i := 0) F dX10_who_49 rfl rfl ?_
            refine v_iload (pc := 50) (i := 7) F dX10_who_50 rfl ?_
            refine v_callVV (pc := 52) (As := [_]) (rest := []) (c := 10) F mX10_runs kX10_117 im_X10_runs se_X10_runs dX10_who_52 rfl rfl (by decide) (c_X10_runs _ n μ.1 _ (hrw.keep hI) hn8 ho) (by decide) rfl rfl (Nat.le_of_ble_eq_true rfl) lm0 (fun μ7 hp7 => ?_)
            have hq := hp7
            have hI2 : Fm PB μ μ7 := hI.tr hq.1
            generalize μ7 = μ'' at hq hI2 ⊢
            refine v_aload_n (pc := 55) (i := 0) F dX10_who_55 rfl rfl ?_
            refine v_callVI (pc := 56) (As := []) (rest := []) (c := 10) F mX10_leftThen kX10_237 im_X10_leftThen se_X10_leftThen dX10_who_56 rfl rfl (by decide) (c_X10_leftThen _) (by decide) rfl rfl (Nat.le_of_ble_eq_true rfl) lm0 (fun x8 μ8 hp8 => ?_)
            rw [hp8.1, hp8.2]
            refine v_iload_n (pc := 59) (i := 1) F dX10_who_59 rfl rfl ?_
            refine v_icmp_eq (pc := 60) (tgt := 66) F dX10_who_60 (by decide) (fun hb => ?_) (fun hb => ?_)
            · rw [lfB_eq hq.2] at hb
              refine v_iinc (pc := 66) (i := 3) (v := nI (dC (whP μ.1 n left) (2 ^ n) k + 1)) (lo' := [some (.ref _), some (.int _), some (.int _), some (.int _), some (.int _), some (.int _), some (.int _), some (.int _)]) F dX10_who_66 rfl (j_inc _) rfl rfl ?_
              refine v_iload (pc := 69) (i := 7) F dX10_who_69 rfl ?_
              refine v_istore (pc := 71) (lo' := [some (.ref _), some (.int _), some (.int _), some (.int _), some (.int _), some (.int _), some (.int _), some (.int _)]) F dX10_who_71 rfl (Nat.le_of_ble_eq_true rfl) rfl ?_
              refine v_iload (pc := 73) (i := 5) F dX10_who_73 rfl ?_
              refine v_iconst (pc := 75) (v := (-1)) F dX10_who_75 (by decide) ?_
              refine v_icmp_ne (pc := 76) (tgt := 84) F dX10_who_76 (by decide) (fun ha => ?_) (fun ha => ?_)
              · skip
                refine v_iload (pc := 84) (i := 5) F dX10_who_84 rfl ?_
                refine v_iload (pc := 86) (i := 7) F dX10_who_86 rfl ?_
                refine v_iand (pc := 88) F dX10_who_88 ?_
                refine v_istore (pc := 89) (lo' := [some (.ref _), some (.int _), some (.int _), some (.int _), some (.int _), some (.int _), some (.int _), some (.int _)]) F dX10_who_89 rfl (Nat.le_of_ble_eq_true rfl) rfl ?_
                refine v_iload (pc := 91) (i := 6) F dX10_who_91 rfl ?_
                refine v_iload (pc := 93) (i := 7) F dX10_who_93 rfl ?_
                refine v_ior (pc := 95) F dX10_who_95 ?_
                refine v_istore (pc := 96) (lo' := [some (.ref _), some (.int _), some (.int _), some (.int _), some (.int _), some (.int _), some (.int _), some (.int _)]) F dX10_who_96 rfl (Nat.le_of_ble_eq_true rfl) rfl ?_
                refine v_iinc (pc := 98) (i := 7) (v := (dX (2 ^ n) (k + 1))) (lo' := [some (.ref _), some (.int _), some (.int _), some (.int _), some (.int _), some (.int _), some (.int _), some (.int _)]) F dX10_who_98 rfl (dX_s hk2) rfl rfl ?_
                refine v_goto (pc := 101) (tgt := 44) F dX10_who_101 (by decide) ?_
                have q := ih (by omega) μ'' hI2
                first | (have hP : ¬ whP μ.1 n left (2 ^ n - 1 - k) = true := whP_f hb) | (have hP : whP μ.1 n left (2 ^ n - 1 - k) = true := whP_t hb)
                first | (have h4 := d4_f (P := whP μ.1 n left) (N := 2 ^ n) (k := k) hP; rw [h4.1, h4.2.1, h4.2.2.1, h4.2.2.2] at q) | (have h4 := d4_t (P := whP μ.1 n left) (N := 2 ^ n) (k := k) hP; rw [h4.1, h4.2.1, d4_m (P := whP μ.1 n left) (N := 2 ^ n) (k := k) hP ha, h4.2.2.2] at q) | (have h4 := d4_t (P := whP μ.1 n left) (N := 2 ^ n) (k := k) hP; rw [h4.1, h4.2.1, h4.2.2.1, h4.2.2.2] at q)
                exact q
              · skip
                refine v_iload (pc := 79) (i := 7) F dX10_who_79 rfl ?_
                refine v_goto (pc := 81) (tgt := 89) F dX10_who_81 (by decide) ?_
                refine v_istore (pc := 89) (lo' := [some (.ref _), some (.int _), some (.int _), some (.int _), some (.int _), some (.int _), some (.int _), some (.int _)]) F dX10_who_89 rfl (Nat.le_of_ble_eq_true rfl) rfl ?_
                refine v_iload (pc := 91) (i := 6) F dX10_who_91 rfl ?_
                refine v_iload (pc := 93) (i := 7) F dX10_who_93 rfl ?_
                refine v_ior (pc := 95) F dX10_who_95 ?_
                refine v_istore (pc := 96) (lo' := [some (.ref _), some (.int _), some (.int _), some (.int _), some (.int _), some (.int _), some (.int _), some (.int _)]) F dX10_who_96 rfl (Nat.le_of_ble_eq_true rfl) rfl ?_
                refine v_iinc (pc := 98) (i := 7) (v := (dX (2 ^ n) (k + 1))) (lo' := [some (.ref _), some (.int _), some (.int _), some (.int _), some (.int _), some (.int _), some (.int _), some (.int _)]) F dX10_who_98 rfl (dX_s hk2) rfl rfl ?_
                refine v_goto (pc := 101) (tgt := 44) F dX10_who_101 (by decide) ?_
                have q := ih (by omega) μ'' hI2
                first | (have hP : ¬ whP μ.1 n left (2 ^ n - 1 - k) = true := whP_f hb) | (have hP : whP μ.1 n left (2 ^ n - 1 - k) = true := whP_t hb)
                first | (have h4 := d4_f (P := whP μ.1 n left) (N := 2 ^ n) (k := k) hP; rw [h4.1, h4.2.1, h4.2.2.1, h4.2.2.2] at q) | (have h4 := d4_t (P := whP μ.1 n left) (N := 2 ^ n) (k := k) hP; rw [h4.1, h4.2.1, d4_m (P := whP μ.1 n left) (N := 2 ^ n) (k := k) hP ha, h4.2.2.2] at q) | (have h4 := d4_t (P := whP μ.1 n left) (N := 2 ^ n) (k := k) hP; rw [h4.1, h4.2.1, h4.2.2.1, h4.2.2.2] at q)
                exact q
            · rw [lfB_eq hq.2] at hb
              refine v_goto (pc := 63) (tgt := 98) F dX10_who_63 (by decide) ?_
              refine v_iinc (pc := 98) (i := 7) (v := (dX (2 ^ n) (k + 1))) (lo' := [some (.ref _), some (.int _), some (.int _), some (.int _), some (.int _), some (.int _), some (.int _), some (.int _)]) F dX10_who_98 rfl (dX_s hk2) rfl rfl ?_
              refine v_goto (pc := 101) (tgt := 44) F dX10_who_101 (by decide) ?_
              have q := ih (by omega) μ'' hI2
              first | (have hP : ¬ whP μ.1 n left (2 ^ n - 1 - k) = true := whP_f hb) | (have hP : whP μ.1 n left (2 ^ n - 1 - k) = true := whP_t hb)
              first | (have h4 := d4_f (P := whP μ.1 n left) (N := 2 ^ n) (k := k) hP; rw [h4.1, h4.2.1, h4.2.2.1, h4.2.2.2] at q) | (have h4 := d4_t (P := whP μ.1 n left) (N := 2 ^ n) (k := k) hP; rw [h4.1, h4.2.1, d4_m (P := whP μ.1 n left) (N := 2 ^ n) (k := k) hP ha, h4.2.2.2] at q) | (have h4 := d4_t (P := whP μ.1 n left) (N := 2 ^ n) (k := k) hP; rw [h4.1, h4.2.1, h4.2.2.1, h4.2.2.2] at q)
              exact q
        · skip
          rw [dX_ge hk2]
          refine v_if_lt (pc := 46) (tgt := 104) F dX10_who_46 (by decide) (fun h46_11 => ?_) (fun h46_11 => ?_)
          · skip
            have e : k = 2 ^ n := by omega
            subst e
            obtain rfl | rfl | rfl | rfl : k_what = 0 ∨ k_what = 1 ∨ k_what = 2 ∨ k_what = 3 := by omega
            · skip
              refine v_iload_n (pc := 104) (i := 2) F dX10_who_104 rfl rfl ?_
              refine v_if_ne (pc := 105) (tgt := 112) F dX10_who_105 (by decide) (fun h105_12 => ?_) (fun h105_12 => ?_)
              · rw [j_eq0 (by omega)] at h105_12
                exact absurd h105_12 (by decide)
              · rw [j_eq0 (by omega)] at h105_12
                refine v_iload_n (pc := 108) (i := 3) F dX10_who_108 rfl rfl ?_
                refine v_goto (pc := 109) (tgt := 134) F dX10_who_109 (by decide) ?_
                refine v_ireturn (pc := 134) F dX10_who_134 (rfl) ?_
                simp only [s_who, hnn, h4_2, h13_5, ek_what, h46_11, h105_12, dC_e, dL_e, dA_e, dO_e, ↓reduceIte]
                exact ⟨rfl, PB_PS hI⟩
            · skip
              refine v_iload_n (pc := 104) (i := 2) F dX10_who_104 rfl rfl ?_
              refine v_if_ne (pc := 105) (tgt := 112) F dX10_who_105 (by decide) (fun h105_13 => ?_) (fun h105_13 => ?_)
              · rw [j_eq0 (by omega)] at h105_13
                refine v_iload_n (pc := 112) (i := 2) F dX10_who_112 rfl rfl ?_
                refine v_iconst (pc := 113) (v := nI 1) F dX10_who_113 (by decide) ?_
                refine v_icmp_ne (pc := 114) (tgt := 122) F dX10_who_114 (by decide) (fun h114_14 => ?_) (fun h114_14 => ?_)
                · rw [nI_eq (by omega) (by omega)] at h114_14
                  exact absurd h114_14 (by decide)
                · rw [nI_eq (by omega) (by omega)] at h114_14
                  refine v_iload (pc := 117) (i := 4) F dX10_who_117 rfl ?_
                  refine v_goto (pc := 119) (tgt := 134) F dX10_who_119 (by decide) ?_
                  refine v_ireturn (pc := 134) F dX10_who_134 (rfl) ?_
                  simp only [s_who, hnn, h4_2, h13_5, ek_what, h46_11, h105_13, h114_14, dC_e, dL_e, dA_e, dO_e, ↓reduceIte]
                  exact ⟨rfl, PB_PS hI⟩
              · rw [j_eq0 (by omega)] at h105_13
                exact absurd h105_13 (by decide)
            · skip
              refine v_iload_n (pc := 104) (i := 2) F dX10_who_104 rfl rfl ?_
              refine v_if_ne (pc := 105) (tgt := 112) F dX10_who_105 (by decide) (fun h105_15 => ?_) (fun h105_15 => ?_)
              · rw [j_eq0 (by omega)] at h105_15
                refine v_iload_n (pc := 112) (i := 2) F dX10_who_112 rfl rfl ?_
                refine v_iconst (pc := 113) (v := nI 1) F dX10_who_113 (by decide) ?_
                refine v_icmp_ne (pc := 114) (tgt := 122) F dX10_who_114 (by decide) (fun h114_16 => ?_) (fun h114_16 => ?_)
                · rw [nI_eq (by omega) (by omega)] at h114_16
                  refine v_iload_n (pc := 122) (i := 2) F dX10_who_122 rfl rfl ?_
                  refine v_iconst (pc := 123) (v := nI 2) F dX10_who_123 (by decide) ?_
                  refine v_icmp_ne (pc := 124) (tgt := 132) F dX10_who_124 (by decide) (fun h124_17 => ?_) (fun h124_17 => ?_)
                  · rw [nI_eq (by omega) (by omega)] at h124_17
                    exact absurd h124_17 (by decide)
                  · rw [nI_eq (by omega) (by omega)] at h124_17
                    refine v_iload (pc := 127) (i := 5) F dX10_who_127 rfl ?_
                    refine v_goto (pc := 129) (tgt := 134) F dX10_who_129 (by decide) ?_
                    refine v_ireturn (pc := 134) F dX10_who_134 (rfl) ?_
                    simp only [s_who, hnn, h4_2, h13_5, ek_what, h46_11, h105_15, h114_16, h124_17, dC_e, dL_e, dA_e, dO_e, ↓reduceIte]
                    exact ⟨rfl, PB_PS hI⟩
                · rw [nI_eq (by omega) (by omega)] at h114_16
                  exact absurd h114_16 (by decide)
              · rw [j_eq0 (by omega)] at h105_15
                exact absurd h105_15 (by decide)
            · skip
              refine v_iload_n (pc := 104) (i := 2) F dX10_who_104 rfl rfl ?_
              refine v_if_ne (pc := 105) (tgt := 112) F dX10_who_105 (by decide) (fun h105_18 => ?_) (fun h105_18 => ?_)
              · rw [j_eq0 (by omega)] at h105_18
                refine v_iload_n (pc := 112) (i := 2) F dX10_who_112 rfl rfl ?_
                refine v_iconst (pc := 113) (v := nI 1) F dX10_who_113 (by decide) ?_
                refine v_icmp_ne (pc := 114) (tgt := 122) F dX10_who_114 (by decide) (fun h114_19 => ?_) (fun h114_19 => ?_)
                · rw [nI_eq (by omega) (by omega)] at h114_19
                  refine v_iload_n (pc := 122) (i := 2) F dX10_who_122 rfl rfl ?_
                  refine v_iconst (pc := 123) (v := nI 2) F dX10_who_123 (by decide) ?_
                  refine v_icmp_ne (pc := 124) (tgt := 132) F dX10_who_124 (by decide) (fun h124_20 => ?_) (fun h124_20 => ?_)
                  · rw [nI_eq (by omega) (by omega)] at h124_20
                    refine v_iload (pc := 132) (i := 6) F dX10_who_132 rfl ?_
                    refine v_ireturn (pc := 134) F dX10_who_134 (rfl) ?_
                    simp only [s_who, hnn, h4_2, h13_5, ek_what, h46_11, h105_18, h114_19, h124_20, dC_e, dL_e, dA_e, dO_e, ↓reduceIte]
                    exact ⟨rfl, PB_PS hI⟩
                  · rw [nI_eq (by omega) (by omega)] at h124_20
                    exact absurd h124_20 (by decide)
                · rw [nI_eq (by omega) (by omega)] at h114_19
                  exact absurd h114_19 (by decide)
              · rw [j_eq0 (by omega)] at h105_18
                exact absurd h105_18 (by decide)
          · skip
            exact absurd h46_11 (by decide)
    · rw [b2i_0] at h13_5
      refine v_aload_n (pc := 16) (i := 0) F dX10_who_16 rfl rfl ?_
      refine v_bipush (pc := 17) (v := (-2)) F dX10_who_17 (by decide) ?_
      refine v_callVI (pc := 19) (As := [_]) (rest := []) (c := 10) F mX10_no kX10_96 im_X10_no se_X10_no dX10_who_19 rfl rfl (by decide) (c_X10_no (-2) 2 (by decide) (by decide) _) (by decide) rfl rfl (Nat.le_of_ble_eq_true rfl) lm0 (fun x21 μ21 hp21 => ?_)
      rw [hp21.1, hp21.2]
      refine v_ireturn (pc := 22) F dX10_who_22 (rfl) ?_
      simp only [s_who, rj, hnn, h4_2, h13_5, ↓reduceIte]
      refine ⟨?_, ?_⟩ <;> first | exact trivial | exact rfl | exact Fm.rf
