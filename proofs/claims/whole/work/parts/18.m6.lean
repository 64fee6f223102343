/-! the reference's public methods: evenings that might be -/
abbrev OO (w : Nat → Nat → Int32) (n : Nat) (set : Int32) : List Nat := ordO (w 4) (tb set) n
def uE (w : Nat → Nat → Int32) (n : Nat) (set : Int32) : Nat → Int32 := goU w (OO w n set) (w 1)
def tE (w : Nat → Nat → Int32) (n : Nat) (set : Int32) (l : Nat) : List Nat := goT w (OO w n set) (w 1) l
def lfB (u : Nat → Int32) : Int32 := bK (fun p => !(u p == -1)) 12
def gdE (w : Nat → Nat → Int32) (n : Nat) (set : Int32) (l : Nat) : Bool := gdB w (OO w n set) l
def gnE (w : Nat → Nat → Int32) (n : Nat) (set : Int32) : Nat := cK (fun l => tb set l && gdE w n set l) n
theorem bK_congr {P Q : Nat → Bool} {n : Nat} (h : ∀ p, p < n → P p = Q p) : bK P n = bK Q n := by
  induction n with
  | zero => rfl
  | succ n ih => simp only [bK]; rw [ih (fun p hp => h p (by omega)), h n (by omega)]
theorem lfB_eq {w : Nat → Nat → Int32} {O : List Nat} {μ : j_M} (h : RP w O μ) : bK (fun p => !(μ.1 16 p == -1)) 12 = lfB (goU w O (w 1)) := bK_congr (fun p hp => by simp only [h.1 p hp])
theorem bl_0 {L : List Nat} (h : ∀ p ∈ L, p < 12) : (bl L = 0) = (L.isEmpty = true) := by
  cases L with
  | nil => simp [bl]
  | cons p L =>
    refine propext ⟨fun e => ?_, fun e => by cases e⟩
    have := congrArg (fun z => tb z p) e
    simp only [tb_bl (fun q hq => by have := h q hq; omega : ∀ q ∈ p :: L, q < 32), tb_0] at this
    simp at this
theorem took_0 {w : Nat → Nat → Int32} {O : List Nat} {μ : j_M} {l : Nat} (h : RP w O μ) (hl : l < 8) : (μ.1 18 l = 0) = ((goT w O (w 1) l).isEmpty = true) := by
  rw [(h.2 l hl).1, bl_0 (fun p hp => goT_lt hp)]
theorem j_4096 (P : Nat → Prop) (h : ∀ a, a < 64 → ∀ b, b < 64 → P (64 * a + b)) : ∀ k, k < 4096 → P k := by
  intro k hk
  have := h (k / 64) (by omega) (k % 64) (by omega)
  rwa [show 64 * (k / 64) + k % 64 = k by omega] at this
theorem jbc_n : ∀ k, k < 4096 → jbc (nI k) = nI (cK (fun i => k.testBit i) 12) := j_4096 _ (by decide +kernel)
theorem cK_top {P : Nat → Bool} {n m : Nat} (hnm : n ≤ m) (h : ∀ i, n ≤ i → i < m → P i = false) : cK P m = cK P n := by
  induction m with
  | zero => rw [show n = 0 by omega]
  | succ m ih =>
    by_cases e : n = m + 1
    · rw [e]
    · rw [cK_f (by rw [h m (by omega) (by omega)]; exact Bool.false_ne_true)]
      exact ih (by omega) (fun i h1 h2 => h i h1 (by omega))
theorem jbc_set {n k : Nat} (hn : n ≤ 12) (hk : k < 2 ^ n) : jbc (nI k) = nI (cK (tb (nI k)) n) := by
  have h12 : 2 ^ n ≤ 2 ^ 12 := Nat.pow_le_pow_right (by omega) hn
  have e12 : 2 ^ 12 = 4096 := by decide
  rw [jbc_n k (by omega), cK_congr (P := fun i => k.testBit i) (Q := tb (nI k)) (fun i hi => (tb_nI (by omega)).symm), cK_top (n := n) (by omega)]
  intro i h1 h2
  rw [tb_nI (by omega)]
  exact Nat.testBit_lt_two_pow (Nat.lt_of_lt_of_le hk (Nat.pow_le_pow_right (by omega) h1))
def s_left (set : Int32) (μ : j_M) : Int32 × j_M := if inQ (2 ^ nn μ) set = true then (lfB (uE μ.1 (nn μ) set), μ) else rj (-2) 2 μ
def s_taken (set l : Int32) (μ : j_M) : Int32 × j_M := if inQ (2 ^ nn μ) set = true then (if inQ (nn μ) l = true then (bl (tE μ.1 (nn μ) set (ix l)), μ) else rj (-2) 2 μ) else rj (-2) 2 μ
def s_glad (set what : Int32) (μ : j_M) : Int32 × j_M := if inQ (2 ^ nn μ) set = true then (if inQ 2 what = true then (if what = 0 then (nI (gnE μ.1 (nn μ) set), μ) else (nI (cK (fun l => tb set l && (tE μ.1 (nn μ) set l).isEmpty) (nn μ)), μ)) else rj (-2) 2 μ) else rj (-2) 2 μ
def s_order (set i : Int32) (μ : j_M) : Int32 × j_M := if inQ (2 ^ nn μ) set = true then (if inQ (OO μ.1 (nn μ) set).length i = true then (nI ((OO μ.1 (nn μ) set).getD (ix i) 0), μ) else rj (-2) 2 μ) else rj (-2) 2 μ
def s_empty (set : Int32) (μ : j_M) : Int32 × j_M := if inQ (2 ^ nn μ) set = true then (bK (fun l => tb set l && (tE μ.1 (nn μ) set l).isEmpty) (nn μ), μ) else rj (-2) 2 μ
def s_gladOnes (set : Int32) (μ : j_M) : Int32 × j_M := if inQ (2 ^ nn μ) set = true then (bK (fun l => tb set l && gdE μ.1 (nn μ) set l) (nn μ), μ) else rj (-2) 2 μ
def s_unlike (set : Int32) (μ : j_M) : Int32 × j_M := if inQ (2 ^ nn μ) set = true then (nI (cK (fun s => decide (0 < cP (fun p => uE μ.1 (nn μ) set p == nI s))) 8), μ) else rj (-2) 2 μ
def alS (n : Nat) : Int32 := nI (2 ^ n) - nI 1
def s_without (l : Int32) (μ : j_M) : Int32 × j_M := if inQ (nn μ) l = true then (nI (gnE μ.1 (nn μ) (nI (2 ^ nn μ - 1) &&& (((1 : Int32) <<< (l &&& 31)) ^^^ (-1)))), μ) else rj (-2) 2 μ
def awK (w : Nat → Nat → Int32) (n l : Nat) : Nat → Int32
  | 0 => -1
  | k + 1 => if tb (nI k) l = true then awK w n l k else if ¬ awK w n l k = -1 ∧ ¬ jbc (nI k) < jbc (awK w n l k) then awK w n l k else if gdE w n (nI (2 ^ n - 1) &&& (nI k ^^^ (-1))) l = true then nI k else awK w n l k
def s_away (l what : Int32) (μ : j_M) : Int32 × j_M := if inQ (nn μ) l = true then (if inQ 2 what = true then (if awK μ.1 (nn μ) (ix l) (2 ^ nn μ) = -1 then (-1, μ) else if what = 1 then (awK μ.1 (nn μ) (ix l) (2 ^ nn μ), μ) else (jbc (awK μ.1 (nn μ) (ix l) (2 ^ nn μ)), μ)) else rj (-2) 2 μ) else rj (-2) 2 μ
def crK (w : Nat → Nat → Int32) (n : Nat) (k : Int32) : Nat → Int32 × Int32
  | 0 => (-1, -1)
  | s + 1 => if jbc (nI s) = k then (if (crK w n k s).1 < nI (gnE w n (nI s)) then (nI (gnE w n (nI s)), nI s) else crK w n k s) else crK w n k s
def s_crowd (k what : Int32) (μ : j_M) : Int32 × j_M := if inQ (nn μ + 1) k = true then (if inQ 2 what = true then (if what = 0 then ((crK μ.1 (nn μ) k (2 ^ nn μ)).1, μ) else ((crK μ.1 (nn μ) k (2 ^ nn μ)).2, μ)) else rj (-2) 2 μ) else rj (-2) 2 μ
theorem awK_1 {w : Nat → Nat → Int32} {n l k : Nat} (h : tb (nI k) l = true) : awK w n l (k + 1) = awK w n l k := if_pos h
theorem awK_2 {w : Nat → Nat → Int32} {n l k : Nat} (h : ¬ tb (nI k) l = true) (h1 : ¬ awK w n l k = -1) (h2 : ¬ jbc (nI k) < jbc (awK w n l k)) : awK w n l (k + 1) = awK w n l k := by
  simp only [awK]; rw [if_neg h, if_pos ⟨h1, h2⟩]
theorem awK_3 {w : Nat → Nat → Int32} {n l k : Nat} (h : ¬ tb (nI k) l = true) (h1 : ¬ (¬ awK w n l k = -1 ∧ ¬ jbc (nI k) < jbc (awK w n l k))) (h2 : gdB w (OO w n (nI (2 ^ n - 1) &&& (nI k ^^^ (-1)))) l = true) : awK w n l (k + 1) = nI k := by
  simp only [awK]; rw [if_neg h, if_neg h1]; exact if_pos h2
theorem awK_4 {w : Nat → Nat → Int32} {n l k : Nat} (h : ¬ tb (nI k) l = true) (h1 : ¬ (¬ awK w n l k = -1 ∧ ¬ jbc (nI k) < jbc (awK w n l k))) (h2 : ¬ gdB w (OO w n (nI (2 ^ n - 1) &&& (nI k ^^^ (-1)))) l = true) : awK w n l (k + 1) = awK w n l k := by
  simp only [awK]; rw [if_neg h, if_neg h1]; exact if_neg h2
theorem crK_1 {w : Nat → Nat → Int32} {n s : Nat} {k : Int32} (h : ¬ jbc (nI s) = k) : crK w n k (s + 1) = crK w n k s := if_neg h
theorem crK_2 {w : Nat → Nat → Int32} {n s : Nat} {k : Int32} (h : jbc (nI s) = k) (h2 : (crK w n k s).1 < nI (gnE w n (nI s))) : crK w n k (s + 1) = (nI (gnE w n (nI s)), nI s) := by
  simp only [crK]; rw [if_pos h, if_pos h2]
theorem crK_3 {w : Nat → Nat → Int32} {n s : Nat} {k : Int32} (h : jbc (nI s) = k) (h2 : ¬ (crK w n k s).1 < nI (gnE w n (nI s))) : crK w n k (s + 1) = crK w n k s := by
  simp only [crK]; rw [if_pos h, if_neg h2]

set_option maxRecDepth 100000 in
theorem c_X10_left (set : Int32) (μ : j_M) (hM : MI μ) : Ct yX10_left cX10_left 2 (some .int) 5 ΛM [.ref 0, .int set] μ (pI fun r μ2 => r = (s_left set μ).1 ∧ Fm PS (s_left set μ).2 μ2) := by
  refine Ct.go (lo := [some (.ref 0), some (.int set)]) (by decide) (Nat.le_of_ble_eq_true rfl) rfl rfl (fun X F => ?_)
  have F : Fx X cX10_left RX10 5 (some .int) ΛM := F
  obtain ⟨n, hW, hsh, htp, him⟩ := id hM
  have hn := hW.1
  have hn8 := hW.2.1
  have hnn := nn_eq hn hn8
  have ho := hW.own
  have hrw : RW μ.1 n μ := RW.self hn
  have hpw := j_pw hn8
  refine v_aload_n (pc := 0) (i := 0) F dX10_left_0 rfl rfl ?_
  refine v_iload_n (pc := 1) (i := 1) F dX10_left_1 rfl rfl ?_
  refine v_callVI (pc := 2) (As := [_]) (rest := []) (c := 10) F mX10_isSet kX10_234 im_X10_isSet se_X10_isSet dX10_left_2 rfl rfl (by decide) (c_X10_isSet _ n _ (by first | exact hn | assumption) hn8) (by decide) rfl rfl (Nat.le_of_ble_eq_true rfl) lm0 (fun x1 μ1 hp1 => ?_)
  rw [hp1.1, hp1.2]
  refine v_if_ne (pc := 5) (tgt := 15) F dX10_left_5 (by decide) (fun h5_2 => ?_) (fun h5_2 => ?_)
  · rw [b2i_0] at h5_2
    rw [Classical.not_not] at h5_2
    refine v_aload_n (pc := 15) (i := 0) F dX10_left_15 rfl rfl ?_
    refine v_iload_n (pc := 16) (i := 1) F dX10_left_16 rfl rfl ?_
    refine v_callVV (pc := 17) (As := [_]) (rest := []) (c := 10) F mX10_runs kX10_117 im_X10_runs se_X10_runs dX10_left_17 rfl rfl (by decide) (c_X10_runs _ n μ.1 _ hrw hn8 ho) (by decide) rfl rfl (Nat.le_of_ble_eq_true rfl) lm0 (fun μ3 hp3 => ?_)
    have hq := hp3
    have hw2 := hrw.keep hq.1
    generalize μ3 = μ' at hq hw2 ⊢
    refine v_aload_n (pc := 20) (i := 0) F dX10_left_20 rfl rfl ?_
    refine v_callVI (pc := 21) (As := []) (rest := []) (c := 10) F mX10_leftThen kX10_237 im_X10_leftThen se_X10_leftThen dX10_left_21 rfl rfl (by decide) (c_X10_leftThen _) (by decide) rfl rfl (Nat.le_of_ble_eq_true rfl) lm0 (fun x4 μ4 hp4 => ?_)
    rw [hp4.1, hp4.2]
    refine v_ireturn (pc := 24) F dX10_left_24 (rfl) ?_
    simp only [s_left, hnn, h5_2, ↓reduceIte]
    exact ⟨lfB_eq hq.2, PB_PS hq.1⟩
  · rw [b2i_0] at h5_2
    refine v_aload_n (pc := 8) (i := 0) F dX10_left_8 rfl rfl ?_
    refine v_bipush (pc := 9) (v := (-2)) F dX10_left_9 (by decide) ?_
    refine v_callVI (pc := 11) (As := [_]) (rest := []) (c := 10) F mX10_no kX10_96 im_X10_no se_X10_no dX10_left_11 rfl rfl (by decide) (c_X10_no (-2) 2 (by decide) (by decide) _) (by decide) rfl rfl (Nat.le_of_ble_eq_true rfl) lm0 (fun x5 μ5 hp5 => ?_)
    rw [hp5.1, hp5.2]
    refine v_ireturn (pc := 14) F dX10_left_14 (rfl) ?_
    simp only [s_left, rj, hnn, h5_2, ↓reduceIte]
    refine ⟨?_, ?_⟩ <;> first | exact trivial | exact rfl | exact Fm.rf

set_option maxRecDepth 100000 in
theorem c_X10_taken (set l : Int32) (μ : j_M) (hM : MI μ) : Ct yX10_taken cX10_taken 3 (some .int) 5 ΛM [.ref 0, .int set, .int l] μ (pI fun r μ2 => r = (s_taken set l μ).1 ∧ Fm PS (s_taken set l μ).2 μ2) := by
  refine Ct.go (lo := [some (.ref 0), some (.int set), some (.int l)]) (by decide) (Nat.le_of_ble_eq_true rfl) rfl rfl (fun X F => ?_)
  have F : Fx X cX10_taken RX10 5 (some .int) ΛM := F
  obtain ⟨n, hW, hsh, htp, him⟩ := id hM
  have hn := hW.1
  have hn8 := hW.2.1
  have hnn := nn_eq hn hn8
  have ho := hW.own
  have hrw : RW μ.1 n μ := RW.self hn
  have hpw := j_pw hn8
  refine v_aload_n (pc := 0) (i := 0) F dX10_taken_0 rfl rfl ?_
  refine v_iload_n (pc := 1) (i := 1) F dX10_taken_1 rfl rfl ?_
  refine v_callVI (pc := 2) (As := [_]) (rest := []) (c := 10) F mX10_isSet kX10_234 im_X10_isSet se_X10_isSet dX10_taken_2 rfl rfl (by decide) (c_X10_isSet _ n _ (by first | exact hn | assumption) hn8) (by decide) rfl rfl (Nat.le_of_ble_eq_true rfl) lm0 (fun x1 μ1 hp1 => ?_)
  rw [hp1.1, hp1.2]
  refine v_if_eq (pc := 5) (tgt := 16) F dX10_taken_5 (by decide) (fun h5_2 => ?_) (fun h5_2 => ?_)
  · rw [b2i_0] at h5_2
    refine v_aload_n (pc := 16) (i := 0) F dX10_taken_16 rfl rfl ?_
    refine v_bipush (pc := 17) (v := (-2)) F dX10_taken_17 (by decide) ?_
    refine v_callVI (pc := 19) (As := [_]) (rest := []) (c := 10) F mX10_no kX10_96 im_X10_no se_X10_no dX10_taken_19 rfl rfl (by decide) (c_X10_no (-2) 2 (by decide) (by decide) _) (by decide) rfl rfl (Nat.le_of_ble_eq_true rfl) lm0 (fun x3 μ3 hp3 => ?_)
    rw [hp3.1, hp3.2]
    refine v_ireturn (pc := 22) F dX10_taken_22 (rfl) ?_
    simp only [s_taken, rj, hnn, h5_2, ↓reduceIte]
    refine ⟨?_, ?_⟩ <;> first | exact trivial | exact rfl | exact Fm.rf
  · rw [b2i_0] at h5_2
    rw [Classical.not_not] at h5_2
    refine v_aload_n (pc := 8) (i := 0) F dX10_taken_8 rfl rfl ?_
    refine v_iload_n (pc := 9) (i := 2) F dX10_taken_9 rfl rfl ?_
    refine v_callVI (pc := 10) (As := [_]) (rest := []) (c := 10) F mX10_isLooker kX10_110 im_X10_isLooker se_X10_isLooker dX10_taken_10 rfl rfl (by decide) (c_X10_isLooker _ n _ (by first | exact hn | assumption) hn8) (by decide) rfl rfl (Nat.le_of_ble_eq_true rfl) lm0 (fun x4 μ4 hp4 => ?_)
    rw [hp4.1, hp4.2]
    refine v_if_ne (pc := 13) (tgt := 23) F dX10_taken_13 (by decide) (fun h13_5 => ?_) (fun h13_5 => ?_)
    · rw [b2i_0] at h13_5
      rw [Classical.not_not] at h13_5
      obtain ⟨k_l, hk_l, he_l⟩ := inR_of (by omega) h13_5
      subst he_l
      have ek_l : ix (nI k_l) = k_l := nI_clamp (by omega)
      refine v_aload_n (pc := 23) (i := 0) F dX10_taken_23 rfl rfl ?_
      refine v_iload_n (pc := 24) (i := 1) F dX10_taken_24 rfl rfl ?_
      refine v_callVV (pc := 25) (As := [_]) (rest := []) (c := 10) F mX10_runs kX10_117 im_X10_runs se_X10_runs dX10_taken_25 rfl rfl (by decide) (c_X10_runs _ n μ.1 _ hrw hn8 ho) (by decide) rfl rfl (Nat.le_of_ble_eq_true rfl) lm0 (fun μ6 hp6 => ?_)
      have hq := hp6
      have hw2 := hrw.keep hq.1
      generalize μ6 = μ' at hq hw2 ⊢
      refine v_aload_n (pc := 28) (i := 0) F dX10_taken_28 rfl rfl ?_
      refine v_getR (pc := 29) (o := 18) F fX10_62 dX10_taken_29 rfl lm0 ?_
      refine v_topR (y := 18) rfl ?_
      refine v_iload_n (pc := 32) (i := 2) F dX10_taken_32 rfl rfl ?_
      refine v_ialdN (pc := 33) (k0 := k_l) F dX10_taken_33 (lm10_27 lm0) (rfl) (by omega) (by decide) ?_
      refine v_ireturn (pc := 34) F dX10_taken_34 (rfl) ?_
      simp only [s_taken, hnn, h5_2, h13_5, ek_l, ↓reduceIte]
      exact ⟨(hq.2.2 k_l (by omega)).1, PB_PS hq.1⟩
    · rw [b2i_0] at h13_5
      refine v_aload_n (pc := 16) (i := 0) F dX10_taken_16 rfl rfl ?_
      refine v_bipush (pc := 17) (v := (-2)) F dX10_taken_17 (by decide) ?_
      refine v_callVI (pc := 19) (As := [_]) (rest := []) (c := 10) F mX10_no kX10_96 im_X10_no se_X10_no dX10_taken_19 rfl rfl (by decide) (c_X10_no (-2) 2 (by decide) (by decide) _) (by decide) rfl rfl (Nat.le_of_ble_eq_true rfl) lm0 (fun x7 μ7 hp7 => ?_)
      rw [hp7.1, hp7.2]
      refine v_ireturn (pc := 22) F dX10_taken_22 (rfl) ?_
      simp only [s_taken, rj, hnn, h5_2, h13_5, ↓reduceIte]
      refine ⟨?_, ?_⟩ <;> first | exact trivial | exact rfl | exact Fm.rf

set_option maxRecDepth 100000 in
theorem c_X10_glad (set what : Int32) (μ : j_M) (hM : MI μ) : Ct yX10_glad cX10_glad 6 (some .int) 6 ΛM [.ref 0, .int set, .int what] μ (pI fun r μ2 => r = (s_glad set what μ).1 ∧ Fm PS (s_glad set what μ).2 μ2) := by
  refine Ct.go (lo := [some (.ref 0), some (.int set), some (.int what), none, none, none]) (by decide) (Nat.le_of_ble_eq_true rfl) rfl rfl (fun X F => ?_)
  have F : Fx X cX10_glad RX10 6 (some .int) ΛM := F
  obtain ⟨n, hW, hsh, htp, him⟩ := id hM
  have hn := hW.1
  have hn8 := hW.2.1
  have hnn := nn_eq hn hn8
  have ho := hW.own
  have hrw : RW μ.1 n μ := RW.self hn
  have hpw := j_pw hn8
  refine v_aload_n (pc := 0) (i := 0) F dX10_glad_0 rfl rfl ?_
  refine v_iload_n (pc := 1) (i := 1) F dX10_glad_1 rfl rfl ?_
  refine v_callVI (pc := 2) (As := [_]) (rest := []) (c := 10) F mX10_isSet kX10_234 im_X10_isSet se_X10_isSet dX10_glad_2 rfl rfl (by decide) (c_X10_isSet _ n _ (by first | exact hn | assumption) hn8) (by decide) rfl rfl (Nat.le_of_ble_eq_true rfl) lm0 (fun x1 μ1 hp1 => ?_)
  rw [hp1.1, hp1.2]
  refine v_if_eq (pc := 5) (tgt := 17) F dX10_glad_5 (by decide) (fun h5_2 => ?_) (fun h5_2 => ?_)
  · rw [b2i_0] at h5_2
    refine v_aload_n (pc := 17) (i := 0) F dX10_glad_17 rfl rfl ?_
    refine v_bipush (pc := 18) (v := (-2)) F dX10_glad_18 (by decide) ?_
    refine v_callVI (pc := 20) (As := [_]) (rest := []) (c := 10) F mX10_no kX10_96 im_X10_no se_X10_no dX10_glad_20 rfl rfl (by decide) (c_X10_no (-2) 2 (by decide) (by decide) _) (by decide) rfl rfl (Nat.le_of_ble_eq_true rfl) lm0 (fun x3 μ3 hp3 => ?_)
    rw [hp3.1, hp3.2]
    refine v_ireturn (pc := 23) F dX10_glad_23 (rfl) ?_
    simp only [s_glad, rj, hnn, h5_2, ↓reduceIte]
    refine ⟨?_, ?_⟩ <;> first | exact trivial | exact rfl | exact Fm.rf
  · rw [b2i_0] at h5_2
    rw [Classical.not_not] at h5_2
    refine v_iload_n (pc := 8) (i := 2) F dX10_glad_8 rfl rfl ?_
    refine v_iconst (pc := 9) (v := nI 0) F dX10_glad_9 (by decide) ?_
    refine v_iconst (pc := 10) (v := nI 1) F dX10_glad_10 (by decide) ?_
    refine v_callSI (pc := 11) (As := [_, _, _]) (rest := []) F mX10_within kX10_85 sm_X10_within dX10_glad_11 (c_X10_withinR _ 1 2 rfl (by decide) _) (by decide) rfl rfl (Nat.le_of_ble_eq_true rfl) (fun x4 μ4 hp4 => ?_)
    rw [hp4.1, hp4.2]
    refine v_if_ne (pc := 14) (tgt := 24) F dX10_glad_14 (by decide) (fun h14_5 => ?_) (fun h14_5 => ?_)
    · rw [b2i_0] at h14_5
      rw [Classical.not_not] at h14_5
      obtain ⟨k_what, hk_what, he_what⟩ := inR_of (by decide) h14_5
      subst he_what
      have ek_what : ix (nI k_what) = k_what := nI_clamp (by omega)
      refine v_aload_n (pc := 24) (i := 0) F dX10_glad_24 rfl rfl ?_
      refine v_iload_n (pc := 25) (i := 1) F dX10_glad_25 rfl rfl ?_
      refine v_callVI (pc := 26) (As := [_]) (rest := []) (c := 10) F mX10_gladOf kX10_240 im_X10_gladOf se_X10_gladOf dX10_glad_26 rfl rfl (by decide) (c_X10_gladOf _ n μ.1 _ hrw hn8 ho _ rfl) (by decide) rfl rfl (Nat.le_of_ble_eq_true rfl) lm0 (fun x6 μ6 hp6 => ?_)
      rw [hp6.1]
      have hq := hp6.2
      have hw2 := hrw.keep hq.1
      generalize μ6 = μ' at hq hw2 ⊢
      refine v_istore_n (pc := 29) (lo' := [some (.ref _), some (.int _), some (.int _), some (.int _), _, _]) F dX10_glad_29 rfl rfl (Nat.le_of_ble_eq_true rfl) rfl ?_
      refine v_iload_n (pc := 30) (i := 2) F dX10_glad_30 rfl rfl ?_
      refine v_if_ne (pc := 31) (tgt := 36) F dX10_glad_31 (by decide) (fun hwh => ?_) (fun hwh => ?_)
      · rw [j_eq0 (by omega)] at hwh
        refine v_iconst (pc := 36) (v := nI 0) F dX10_glad_36 (by decide) ?_
        refine v_istore (pc := 37) (lo' := [some (.ref _), some (.int _), some (.int _), some (.int _), some (.int _), _]) F dX10_glad_37 rfl (Nat.le_of_ble_eq_true rfl) rfl ?_
        refine v_iconst (pc := 39) (v := nI 0) F dX10_glad_39 (by decide) ?_
        refine v_istore (pc := 40) (lo' := [some (.ref _), some (.int _), some (.int _), some (.int _), some (.int _), some (.int _)]) F dX10_glad_40 rfl (Nat.le_of_ble_eq_true rfl) rfl ?_
        refine j_up n (fun k => V X _ 42 [some (.ref 0), some (.int set), some (.int (nI k_what)), some (.int (nI (gnE μ.1 n set))), some (.int (nI (cK (fun l => tb set l && (tE μ.1 n set l).isEmpty) k))), some (.int (nI k))] [] μ') (fun k hk ih => ?_) 0 (Nat.zero_le _)
        refine v_iload (pc := 42) (i := 5) F dX10_glad_42 rfl ?_
        refine v_aload_n (pc := 44) (i := 0) F dX10_glad_44 rfl rfl ?_
        refine v_getI (pc := 45) F fX10_89 dX10_glad_45 rfl lm0 ?_
        refine v_topE (hw2.2) ?_
        refine v_icmp_ge (pc := 48) (tgt := 79) F dX10_glad_48 (by decide) (fun h48_8 => ?_) (fun h48_8 => ?_)
        · rw [nI_leI (by omega) (by omega)] at h48_8
          refine v_iload (pc := 79) (i := 4) F dX10_glad_79 rfl ?_
          refine v_ireturn (pc := 81) F dX10_glad_81 (rfl) ?_
          have e : k = n := by omega
          subst e
          have e0 : ¬ nI k_what = 0 := by rw [j_eq0 (by omega)]; exact hwh
          simp only [s_glad, hnn, h5_2, h14_5, ek_what, hwh, h48_8, e0, ↓reduceIte]
          exact ⟨by first | exact trivial | exact rfl, PB_PS hq.1⟩
        · rw [nI_leI (by omega) (by omega)] at h48_8
          refine v_iload_n (pc := 51) (i := 1) F dX10_glad_51 rfl rfl ?_
          refine v_iload (pc := 52) (i := 5) F dX10_glad_52 rfl ?_
          refine v_callSI (pc := 54) (As := [_, _]) (rest := []) F mX10_in kX10_194 sm_X10_in dX10_glad_54 (c_X10_inN _ k (by omega) _) (by decide) rfl rfl (Nat.le_of_ble_eq_true rfl) (fun x9 μ9 hp9 => ?_)
          rw [hp9.1, hp9.2]
          refine v_if_eq (pc := 57) (tgt := 73) F dX10_glad_57 (by decide) (fun ha => ?_) (fun ha => ?_)
          · rw [b2i_0] at ha
            refine v_iinc (pc := 73) (i := 5) (v := nI (k + 1)) (lo' := [some (.ref _), some (.int _), some (.int _), some (.int _), some (.int _), some (.int _)]) F dX10_glad_73 rfl (j_inc _) rfl rfl ?_
            refine v_goto (pc := 76) (tgt := 42) F dX10_glad_76 (by decide) ?_
            have q := ih (by omega)
            first | (rw [cK_t (k := k) (by simp [ha, tE, hb])] at q; exact q) | (rw [cK_f (k := k) (by simpa [ha, tE] using hb)] at q; exact q) | (rw [cK_f (k := k) (by simp [ha])] at q; exact q)
          · rw [b2i_0] at ha
            rw [Classical.not_not] at ha
            refine v_aload_n (pc := 60) (i := 0) F dX10_glad_60 rfl rfl ?_
            refine v_getR (pc := 61) (o := 18) F fX10_62 dX10_glad_61 rfl lm0 ?_
            refine v_topR (y := 18) rfl ?_
            refine v_iload (pc := 64) (i := 5) F dX10_glad_64 rfl ?_
            refine v_ialdN (pc := 66) (k0 := k) F dX10_glad_66 (lm10_27 lm0) (rfl) (by omega) (by decide) ?_
            refine v_if_ne (pc := 67) (tgt := 73) F dX10_glad_67 (by decide) (fun hb => ?_) (fun hb => ?_)
            · rw [took_0 hq.2 (by omega)] at hb
              refine v_iinc (pc := 73) (i := 5) (v := nI (k + 1)) (lo' := [some (.ref _), some (.int _), some (.int _), some (.int _), some (.int _), some (.int _)]) F dX10_glad_73 rfl (j_inc _) rfl rfl ?_
              refine v_goto (pc := 76) (tgt := 42) F dX10_glad_76 (by decide) ?_
              have q := ih (by omega)
              first | (rw [cK_t (k := k) (by simp [ha, tE, hb])] at q; exact q) | (rw [cK_f (k := k) (by simpa [ha, tE] using hb)] at q; exact q) | (rw [cK_f (k := k) (by simp [ha])] at q; exact q)
            · rw [took_0 hq.2 (by omega)] at hb
              refine v_iinc (pc := 70) (i := 4) (v := nI (cK (fun l => tb set l && (tE μ.1 n set l).isEmpty) k + 1)) (lo' := [some (.ref _), some (.int _), some (.int _), some (.int _), some (.int _), some (.int _)]) F dX10_glad_70 rfl (j_inc _) rfl rfl ?_
              refine v_iinc (pc := 73) (i := 5) (v := nI (k + 1)) (lo' := [some (.ref _), some (.int _), some (.int _), some (.int _), some (.int _), some (.int _)]) F dX10_glad_73 rfl (j_inc _) rfl rfl ?_
              refine v_goto (pc := 76) (tgt := 42) F dX10_glad_76 (by decide) ?_
              have q := ih (by omega)
              first | (rw [cK_t (k := k) (by simp [ha, tE, hb])] at q; exact q) | (rw [cK_f (k := k) (by simpa [ha, tE] using hb)] at q; exact q) | (rw [cK_f (k := k) (by simp [ha])] at q; exact q)
      · rw [j_eq0 (by omega)] at hwh
        refine v_iload_n (pc := 34) (i := 3) F dX10_glad_34 rfl rfl ?_
        refine v_ireturn (pc := 35) F dX10_glad_35 (rfl) ?_
        have e0 : nI k_what = 0 := by rw [hwh]; rfl
        simp only [s_glad, hnn, h5_2, h14_5, ek_what, hwh, e0, ↓reduceIte]
        exact ⟨by first | exact trivial | exact rfl, PB_PS hq.1⟩
    · rw [b2i_0] at h14_5
      refine v_aload_n (pc := 17) (i := 0) F dX10_glad_17 rfl rfl ?_
      refine v_bipush (pc := 18) (v := (-2)) F dX10_glad_18 (by decide) ?_
      refine v_callVI (pc := 20) (As := [_]) (rest := []) (c := 10) F mX10_no kX10_96 im_X10_no se_X10_no dX10_glad_20 rfl rfl (by decide) (c_X10_no (-2) 2 (by decide) (by decide) _) (by decide) rfl rfl (Nat.le_of_ble_eq_true rfl) lm0 (fun x12 μ12 hp12 => ?_)
      rw [hp12.1, hp12.2]
      refine v_ireturn (pc := 23) F dX10_glad_23 (rfl) ?_
      simp only [s_glad, rj, hnn, h5_2, h14_5, ↓reduceIte]
      refine ⟨?_, ?_⟩ <;> first | exact trivial | exact rfl | exact Fm.rf

set_option maxRecDepth 100000 in
theorem c_X10_empty (set : Int32) (μ : j_M) (hM : MI μ) : Ct yX10_empty cX10_empty 4 (some .int) 5 ΛM [.ref 0, .int set] μ (pI fun r μ2 => r = (s_empty set μ).1 ∧ Fm PS (s_empty set μ).2 μ2) := by
  refine Ct.go (lo := [some (.ref 0), some (.int set), none, none]) (by decide) (Nat.le_of_ble_eq_true rfl) rfl rfl (fun X F => ?_)
  have F : Fx X cX10_empty RX10 5 (some .int) ΛM := F
  obtain ⟨n, hW, hsh, htp, him⟩ := id hM
  have hn := hW.1
  have hn8 := hW.2.1
  have hnn := nn_eq hn hn8
  have ho := hW.own
  have hrw : RW μ.1 n μ := RW.self hn
  have hpw := j_pw hn8
  refine v_aload_n (pc := 0) (i := 0) F dX10_empty_0 rfl rfl ?_
  refine v_iload_n (pc := 1) (i := 1) F dX10_empty_1 rfl rfl ?_
  refine v_callVI (pc := 2) (As := [_]) (rest := []) (c := 10) F mX10_isSet kX10_234 im_X10_isSet se_X10_isSet dX10_empty_2 rfl rfl (by decide) (c_X10_isSet _ n _ (by first | exact hn | assumption) hn8) (by decide) rfl rfl (Nat.le_of_ble_eq_true rfl) lm0 (fun x1 μ1 hp1 => ?_)
  rw [hp1.1, hp1.2]
  refine v_if_ne (pc := 5) (tgt := 15) F dX10_empty_5 (by decide) (fun h5_2 => ?_) (fun h5_2 => ?_)
  · rw [b2i_0] at h5_2
    rw [Classical.not_not] at h5_2
    refine v_aload_n (pc := 15) (i := 0) F dX10_empty_15 rfl rfl ?_
    refine v_iload_n (pc := 16) (i := 1) F dX10_empty_16 rfl rfl ?_
    refine v_callVV (pc := 17) (As := [_]) (rest := []) (c := 10) F mX10_runs kX10_117 im_X10_runs se_X10_runs dX10_empty_17 rfl rfl (by decide) (c_X10_runs _ n μ.1 _ hrw hn8 ho) (by decide) rfl rfl (Nat.le_of_ble_eq_true rfl) lm0 (fun μ3 hp3 => ?_)
    have hq := hp3
    have hw2 := hrw.keep hq.1
    generalize μ3 = μ' at hq hw2 ⊢
    refine v_iconst (pc := 20) (v := nI 0) F dX10_empty_20 (by decide) ?_
    refine v_istore_n (pc := 21) (lo' := [some (.ref _), some (.int _), some (.int _), _]) F dX10_empty_21 rfl rfl (Nat.le_of_ble_eq_true rfl) rfl ?_
    refine v_iconst (pc := 22) (v := nI 0) F dX10_empty_22 (by decide) ?_
    refine v_istore_n (pc := 23) (lo' := [some (.ref _), some (.int _), some (.int _), some (.int _)]) F dX10_empty_23 rfl rfl (Nat.le_of_ble_eq_true rfl) rfl ?_
    refine j_up n (fun k => V X _ 24 [some (.ref 0), some (.int set), some (.int (bK (fun l => tb set l && (tE μ.1 n set l).isEmpty) k)), some (.int (nI k))] [] μ') (fun k hk ih => ?_) 0 (Nat.zero_le _)
    refine v_iload_n (pc := 24) (i := 3) F dX10_empty_24 rfl rfl ?_
    refine v_aload_n (pc := 25) (i := 0) F dX10_empty_25 rfl rfl ?_
    refine v_getI (pc := 26) F fX10_89 dX10_empty_26 rfl lm0 ?_
    refine v_topE (hw2.2) ?_
    refine v_icmp_ge (pc := 29) (tgt := 61) F dX10_empty_29 (by decide) (fun h29_4 => ?_) (fun h29_4 => ?_)
    · rw [nI_leI (by omega) (by omega)] at h29_4
      refine v_iload_n (pc := 61) (i := 2) F dX10_empty_61 rfl rfl ?_
      refine v_ireturn (pc := 62) F dX10_empty_62 (rfl) ?_
      have e : k = n := by omega
      subst e
      simp only [s_empty, hnn, h5_2, h29_4, ↓reduceIte]
      exact ⟨by first | exact trivial | exact rfl, PB_PS hq.1⟩
    · rw [nI_leI (by omega) (by omega)] at h29_4
      refine v_iload_n (pc := 32) (i := 1) F dX10_empty_32 rfl rfl ?_
      refine v_iload_n (pc := 33) (i := 3) F dX10_empty_33 rfl rfl ?_
      refine v_callSI (pc := 34) (As := [_, _]) (rest := []) F mX10_in kX10_194 sm_X10_in dX10_empty_34 (c_X10_inN _ k (by omega) _) (by decide) rfl rfl (Nat.le_of_ble_eq_true rfl) (fun x5 μ5 hp5 => ?_)
      rw [hp5.1, hp5.2]
      refine v_if_eq (pc := 37) (tgt := 55) F dX10_empty_37 (by decide) (fun ha => ?_) (fun ha => ?_)
      · rw [b2i_0] at ha
        refine v_iinc (pc := 55) (i := 3) (v := nI (k + 1)) (lo' := [some (.ref _), some (.int _), some (.int _), some (.int _)]) F dX10_empty_55 rfl (j_inc _) rfl rfl ?_
        refine v_goto (pc := 58) (tgt := 24) F dX10_empty_58 (by decide) ?_
        have q := ih (by omega)
        first | (rw [bK_t (k := k) (by simp [ha, tE, hb])] at q; exact q) | (rw [bK_f (k := k) (by simpa [ha, tE] using hb)] at q; exact q) | (rw [bK_f (k := k) (by simp [ha])] at q; exact q)
      · rw [b2i_0] at ha
        rw [Classical.not_not] at ha
        refine v_aload_n (pc := 40) (i := 0) F dX10_empty_40 rfl rfl ?_
        refine v_getR (pc := 41) (o := 18) F fX10_62 dX10_empty_41 rfl lm0 ?_
        refine v_topR (y := 18) rfl ?_
        refine v_iload_n (pc := 44) (i := 3) F dX10_empty_44 rfl rfl ?_
        refine v_ialdN (pc := 45) (k0 := k) F dX10_empty_45 (lm10_27 lm0) (rfl) (by omega) (by decide) ?_
        refine v_if_ne (pc := 46) (tgt := 55) F dX10_empty_46 (by decide) (fun hb => ?_) (fun hb => ?_)
        · rw [took_0 hq.2 (by omega)] at hb
          refine v_iinc (pc := 55) (i := 3) (v := nI (k + 1)) (lo' := [some (.ref _), some (.int _), some (.int _), some (.int _)]) F dX10_empty_55 rfl (j_inc _) rfl rfl ?_
          refine v_goto (pc := 58) (tgt := 24) F dX10_empty_58 (by decide) ?_
          have q := ih (by omega)
          first | (rw [bK_t (k := k) (by simp [ha, tE, hb])] at q; exact q) | (rw [bK_f (k := k) (by simpa [ha, tE] using hb)] at q; exact q) | (rw [bK_f (k := k) (by simp [ha])] at q; exact q)
        · rw [took_0 hq.2 (by omega)] at hb
          refine v_iload_n (pc := 49) (i := 2) F dX10_empty_49 rfl rfl ?_
          refine v_iconst (pc := 50) (v := nI 1) F dX10_empty_50 (by decide) ?_
          refine v_iload_n (pc := 51) (i := 3) F dX10_empty_51 rfl rfl ?_
          refine v_ishl (pc := 52) F dX10_empty_52 ?_
          refine v_ior (pc := 53) F dX10_empty_53 ?_
          refine v_istore_n (pc := 54) (lo' := [some (.ref _), some (.int _), some (.int _), some (.int _)]) F dX10_empty_54 rfl rfl (Nat.le_of_ble_eq_true rfl) rfl ?_
          refine v_iinc (pc := 55) (i := 3) (v := nI (k + 1)) (lo' := [some (.ref _), some (.int _), some (.int _), some (.int _)]) F dX10_empty_55 rfl (j_inc _) rfl rfl ?_
          refine v_goto (pc := 58) (tgt := 24) F dX10_empty_58 (by decide) ?_
          have q := ih (by omega)
          first | (rw [bK_t (k := k) (by simp [ha, tE, hb])] at q; exact q) | (rw [bK_f (k := k) (by simpa [ha, tE] using hb)] at q; exact q) | (rw [bK_f (k := k) (by simp [ha])] at q; exact q)
  · rw [b2i_0] at h5_2
    refine v_aload_n (pc := 8) (i := 0) F dX10_empty_8 rfl rfl ?_
    refine v_bipush (pc := 9) (v := (-2)) F dX10_empty_9 (by decide) ?_
    refine v_callVI (pc := 11) (As := [_]) (rest := []) (c := 10) F mX10_no kX10_96 im_X10_no se_X10_no dX10_empty_11 rfl rfl (by decide) (c_X10_no (-2) 2 (by decide) (by decide) _) (by decide) rfl rfl (Nat.le_of_ble_eq_true rfl) lm0 (fun x8 μ8 hp8 => ?_)
    rw [hp8.1, hp8.2]
    refine v_ireturn (pc := 14) F dX10_empty_14 (rfl) ?_
    simp only [s_empty, rj, hnn, h5_2, ↓reduceIte]
    refine ⟨?_, ?_⟩ <;> first | exact trivial | exact rfl | exact Fm.rf

set_option maxRecDepth 100000 in
theorem c_X10_gladOnes (set : Int32) (μ : j_M) (hM : MI μ) : Ct yX10_gladOnes cX10_gladOnes 4 (some .int) 5 ΛM [.ref 0, .int set] μ (pI fun r μ2 => r = (s_gladOnes set μ).1 ∧ Fm PS (s_gladOnes set μ).2 μ2) := by
  refine Ct.go (lo := [some (.ref 0), some (.int set), none, none]) (by decide) (Nat.le_of_ble_eq_true rfl) rfl rfl (fun X F => ?_)
  have F : Fx X cX10_gladOnes RX10 5 (some .int) ΛM := F
  obtain ⟨n, hW, hsh, htp, him⟩ := id hM
  have hn := hW.1
  have hn8 := hW.2.1
  have hnn := nn_eq hn hn8
  have ho := hW.own
  have hrw : RW μ.1 n μ := RW.self hn
  have hpw := j_pw hn8
  refine v_aload_n (pc := 0) (i := 0) F dX10_gladOnes_0 rfl rfl ?_
  refine v_iload_n (pc := 1) (i := 1) F dX10_gladOnes_1 rfl rfl ?_
  refine v_callVI (pc := 2) (As := [_]) (rest := []) (c := 10) F mX10_isSet kX10_234 im_X10_isSet se_X10_isSet dX10_gladOnes_2 rfl rfl (by decide) (c_X10_isSet _ n _ (by first | exact hn | assumption) hn8) (by decide) rfl rfl (Nat.le_of_ble_eq_true rfl) lm0 (fun x1 μ1 hp1 => ?_)
  rw [hp1.1, hp1.2]
  refine v_if_ne (pc := 5) (tgt := 15) F dX10_gladOnes_5 (by decide) (fun h5_2 => ?_) (fun h5_2 => ?_)
  · rw [b2i_0] at h5_2
    rw [Classical.not_not] at h5_2
    refine v_aload_n (pc := 15) (i := 0) F dX10_gladOnes_15 rfl rfl ?_
    refine v_iload_n (pc := 16) (i := 1) F dX10_gladOnes_16 rfl rfl ?_
    refine v_callVV (pc := 17) (As := [_]) (rest := []) (c := 10) F mX10_runs kX10_117 im_X10_runs se_X10_runs dX10_gladOnes_17 rfl rfl (by decide) (c_X10_runs _ n μ.1 _ hrw hn8 ho) (by decide) rfl rfl (Nat.le_of_ble_eq_true rfl) lm0 (fun μ3 hp3 => ?_)
    have hq := hp3
    have hw2 := hrw.keep hq.1
    generalize μ3 = μ' at hq hw2 ⊢
    refine v_iconst (pc := 20) (v := nI 0) F dX10_gladOnes_20 (by decide) ?_
    refine v_istore_n (pc := 21) (lo' := [some (.ref _), some (.int _), some (.int _), _]) F dX10_gladOnes_21 rfl rfl (Nat.le_of_ble_eq_true rfl) rfl ?_
    refine v_iconst (pc := 22) (v := nI 0) F dX10_gladOnes_22 (by decide) ?_
    refine v_istore_n (pc := 23) (lo' := [some (.ref _), some (.int _), some (.int _), some (.int _)]) F dX10_gladOnes_23 rfl rfl (Nat.le_of_ble_eq_true rfl) rfl ?_
    refine j_up n (fun k => V X _ 24 [some (.ref 0), some (.int set), some (.int (bK (fun l => tb set l && gdE μ.1 n set l) k)), some (.int (nI k))] [] μ') (fun k hk ih => ?_) 0 (Nat.zero_le _)
    refine v_iload_n (pc := 24) (i := 3) F dX10_gladOnes_24 rfl rfl ?_
    refine v_aload_n (pc := 25) (i := 0) F dX10_gladOnes_25 rfl rfl ?_
    refine v_getI (pc := 26) F fX10_89 dX10_gladOnes_26 rfl lm0 ?_
    refine v_topE (hw2.2) ?_
    refine v_icmp_ge (pc := 29) (tgt := 60) F dX10_gladOnes_29 (by decide) (fun h29_4 => ?_) (fun h29_4 => ?_)
    · rw [nI_leI (by omega) (by omega)] at h29_4
      refine v_iload_n (pc := 60) (i := 2) F dX10_gladOnes_60 rfl rfl ?_
      refine v_ireturn (pc := 61) F dX10_gladOnes_61 (rfl) ?_
      have e : k = n := by omega
      subst e
      simp only [s_gladOnes, hnn, h5_2, h29_4, ↓reduceIte]
      exact ⟨by first | exact trivial | exact rfl, PB_PS hq.1⟩
    · rw [nI_leI (by omega) (by omega)] at h29_4
      refine v_iload_n (pc := 32) (i := 1) F dX10_gladOnes_32 rfl rfl ?_
      refine v_iload_n (pc := 33) (i := 3) F dX10_gladOnes_33 rfl rfl ?_
      refine v_callSI (pc := 34) (As := [_, _]) (rest := []) F mX10_in kX10_194 sm_X10_in dX10_gladOnes_34 (c_X10_inN _ k (by omega) _) (by decide) rfl rfl (Nat.le_of_ble_eq_true rfl) (fun x5 μ5 hp5 => ?_)
      rw [hp5.1, hp5.2]
      refine v_if_eq (pc := 37) (tgt := 54) F dX10_gladOnes_37 (by decide) (fun ha => ?_) (fun ha => ?_)
      · rw [b2i_0] at ha
        refine v_iinc (pc := 54) (i := 3) (v := nI (k + 1)) (lo' := [some (.ref _), some (.int _), some (.int _), some (.int _)]) F dX10_gladOnes_54 rfl (j_inc _) rfl rfl ?_
        refine v_goto (pc := 57) (tgt := 24) F dX10_gladOnes_57 (by decide) ?_
        have q := ih (by omega)
        first | (rw [bK_t (k := k) (by simp [ha, gdE, hb])] at q; exact q) | (rw [bK_f (k := k) (by simpa [ha, gdE] using hb)] at q; exact q) | (rw [bK_f (k := k) (by simp [ha])] at q; exact q)
      · rw [b2i_0] at ha
        rw [Classical.not_not] at ha
        refine v_aload_n (pc := 40) (i := 0) F dX10_gladOnes_40 rfl rfl ?_
        refine v_iload_n (pc := 41) (i := 3) F dX10_gladOnes_41 rfl rfl ?_
        refine v_callVI (pc := 42) (As := [_]) (rest := []) (c := 10) F mX10_isGlad kX10_231 im_X10_isGlad se_X10_isGlad dX10_gladOnes_42 rfl rfl (by decide) (c_X10_isGlad k (by omega) _) (by decide) rfl rfl (Nat.le_of_ble_eq_true rfl) lm0 (fun x7 μ7 hp7 => ?_)
        rw [hp7.1, hp7.2]
        refine v_if_eq (pc := 45) (tgt := 54) F dX10_gladOnes_45 (by decide) (fun hb => ?_) (fun hb => ?_)
        · rw [b2i_0, gd_eq hw2 hq.2 (by omega)] at hb
          refine v_iinc (pc := 54) (i := 3) (v := nI (k + 1)) (lo' := [some (.ref _), some (.int _), some (.int _), some (.int _)]) F dX10_gladOnes_54 rfl (j_inc _) rfl rfl ?_
          refine v_goto (pc := 57) (tgt := 24) F dX10_gladOnes_57 (by decide) ?_
          have q := ih (by omega)
          first | (rw [bK_t (k := k) (by simp [ha, gdE, hb])] at q; exact q) | (rw [bK_f (k := k) (by simpa [ha, gdE] using hb)] at q; exact q) | (rw [bK_f (k := k) (by simp [ha])] at q; exact q)
        · rw [b2i_0, gd_eq hw2 hq.2 (by omega)] at hb
          rw [Classical.not_not] at hb
          refine v_iload_n (pc := 48) (i := 2) F dX10_gladOnes_48 rfl rfl ?_
          refine v_iconst (pc := 49) (v := nI 1) F dX10_gladOnes_49 (by decide) ?_
          refine v_iload_n (pc := 50) (i := 3) F dX10_gladOnes_50 rfl rfl ?_
          refine v_ishl (pc := 51) F dX10_gladOnes_51 ?_
          refine v_ior (pc := 52) F dX10_gladOnes_52 ?_
          refine v_istore_n (pc := 53) (lo' := [some (.ref _), some (.int _), some (.int _), some (.int _)]) F dX10_gladOnes_53 rfl rfl (Nat.le_of_ble_eq_true rfl) rfl ?_
          refine v_iinc (pc := 54) (i := 3) (v := nI (k + 1)) (lo' := [some (.ref _), some (.int _), some (.int _), some (.int _)]) F dX10_gladOnes_54 rfl (j_inc _) rfl rfl ?_
          refine v_goto (pc := 57) (tgt := 24) F dX10_gladOnes_57 (by decide) ?_
          have q := ih (by omega)
          first | (rw [bK_t (k := k) (by simp [ha, gdE, hb])] at q; exact q) | (rw [bK_f (k := k) (by simpa [ha, gdE] using hb)] at q; exact q) | (rw [bK_f (k := k) (by simp [ha])] at q; exact q)
  · rw [b2i_0] at h5_2
    refine v_aload_n (pc := 8) (i := 0) F dX10_gladOnes_8 rfl rfl ?_
    refine v_bipush (pc := 9) (v := (-2)) F dX10_gladOnes_9 (by decide) ?_
    refine v_callVI (pc := 11) (As := [_]) (rest := []) (c := 10) F mX10_no kX10_96 im_X10_no se_X10_no dX10_gladOnes_11 rfl rfl (by decide) (c_X10_no (-2) 2 (by decide) (by decide) _) (by decide) rfl rfl (Nat.le_of_ble_eq_true rfl) lm0 (fun x9 μ9 hp9 => ?_)
    rw [hp9.1, hp9.2]
    refine v_ireturn (pc := 14) F dX10_gladOnes_14 (rfl) ?_
    simp only [s_gladOnes, rj, hnn, h5_2, ↓reduceIte]
    refine ⟨?_, ?_⟩ <;> first | exact trivial | exact rfl | exact Fm.rf

set_option maxRecDepth 100000 in
theorem c_X10_unlike (set : Int32) (μ : j_M) (hM : MI μ) : Ct yX10_unlike cX10_unlike 4 (some .int) 5 ΛM [.ref 0, .int set] μ (pI fun r μ2 => r = (s_unlike set μ).1 ∧ Fm PS (s_unlike set μ).2 μ2) := by
  refine Ct.go (lo := [some (.ref 0), some (.int set), none, none]) (by decide) (Nat.le_of_ble_eq_true rfl) rfl rfl (fun X F => ?_)
  have F : Fx X cX10_unlike RX10 5 (some .int) ΛM := F
  obtain ⟨n, hW, hsh, htp, him⟩ := id hM
  have hn := hW.1
  have hn8 := hW.2.1
  have hnn := nn_eq hn hn8
  have ho := hW.own
  have hrw : RW μ.1 n μ := RW.self hn
  have hpw := j_pw hn8
  refine v_aload_n (pc := 0) (i := 0) F dX10_unlike_0 rfl rfl ?_
  refine v_iload_n (pc := 1) (i := 1) F dX10_unlike_1 rfl rfl ?_
  refine v_callVI (pc := 2) (As := [_]) (rest := []) (c := 10) F mX10_isSet kX10_234 im_X10_isSet se_X10_isSet dX10_unlike_2 rfl rfl (by decide) (c_X10_isSet _ n _ (by first | exact hn | assumption) hn8) (by decide) rfl rfl (Nat.le_of_ble_eq_true rfl) lm0 (fun x1 μ1 hp1 => ?_)
  rw [hp1.1, hp1.2]
  refine v_if_ne (pc := 5) (tgt := 15) F dX10_unlike_5 (by decide) (fun h5_2 => ?_) (fun h5_2 => ?_)
  · rw [b2i_0] at h5_2
    rw [Classical.not_not] at h5_2
    refine v_aload_n (pc := 15) (i := 0) F dX10_unlike_15 rfl rfl ?_
    refine v_iload_n (pc := 16) (i := 1) F dX10_unlike_16 rfl rfl ?_
    refine v_callVV (pc := 17) (As := [_]) (rest := []) (c := 10) F mX10_runs kX10_117 im_X10_runs se_X10_runs dX10_unlike_17 rfl rfl (by decide) (c_X10_runs _ n μ.1 _ hrw hn8 ho) (by decide) rfl rfl (Nat.le_of_ble_eq_true rfl) lm0 (fun μ3 hp3 => ?_)
    have hq := hp3
    have hw2 := hrw.keep hq.1
    generalize μ3 = μ' at hq hw2 ⊢
    refine v_iconst (pc := 20) (v := nI 0) F dX10_unlike_20 (by decide) ?_
    refine v_istore_n (pc := 21) (lo' := [some (.ref _), some (.int _), some (.int _), _]) F dX10_unlike_21 rfl rfl (Nat.le_of_ble_eq_true rfl) rfl ?_
    refine v_iconst (pc := 22) (v := nI 0) F dX10_unlike_22 (by decide) ?_
    refine v_istore_n (pc := 23) (lo' := [some (.ref _), some (.int _), some (.int _), some (.int _)]) F dX10_unlike_23 rfl rfl (Nat.le_of_ble_eq_true rfl) rfl ?_
    refine j_up 8 (fun k => V X _ 24 [some (.ref 0), some (.int set), some (.int (nI (cK (fun s => decide (0 < cP (fun p => uE μ.1 n set p == nI s))) k))), some (.int (nI k))] [] μ') (fun k hk ih => ?_) 0 (Nat.zero_le _)
    refine v_iload_n (pc := 24) (i := 3) F dX10_unlike_24 rfl rfl ?_
    refine v_bipush (pc := 25) (v := nI 8) F dX10_unlike_25 (by decide) ?_
    refine v_icmp_ge (pc := 27) (tgt := 47) F dX10_unlike_27 (by decide) (fun h27_4 => ?_) (fun h27_4 => ?_)
    · rw [nI_leI (by omega) (by omega)] at h27_4
      refine v_iload_n (pc := 47) (i := 2) F dX10_unlike_47 rfl rfl ?_
      refine v_ireturn (pc := 48) F dX10_unlike_48 (rfl) ?_
      have e : k = 8 := by omega
      subst e
      simp only [s_unlike, hnn, h5_2, h27_4, ↓reduceIte]
      exact ⟨by first | exact trivial | exact rfl, PB_PS hq.1⟩
    · rw [nI_leI (by omega) (by omega)] at h27_4
      refine v_aload_n (pc := 30) (i := 0) F dX10_unlike_30 rfl rfl ?_
      refine v_iload_n (pc := 31) (i := 3) F dX10_unlike_31 rfl rfl ?_
      refine v_callVI (pc := 32) (As := [_]) (rest := []) (c := 10) F mX10_manyOf kX10_203 im_X10_manyOf se_X10_manyOf dX10_unlike_32 rfl rfl (by decide) (c_X10_manyOf _ _) (by decide) rfl rfl (Nat.le_of_ble_eq_true rfl) lm0 (fun x5 μ5 hp5 => ?_)
      rw [hp5.1, hp5.2]
      refine v_if_le (pc := 35) (tgt := 41) F dX10_unlike_35 (by decide) (fun hb => ?_) (fun hb => ?_)
      · rw [j_le0 cP_b, cP_congr (P := fun p => μ'.1 16 p == nI k) (Q := fun p => uE μ.1 n set p == nI k) (fun p hp => by simp only [hq.2.1 p hp]; rfl)] at hb
        refine v_iinc (pc := 41) (i := 3) (v := nI (k + 1)) (lo' := [some (.ref _), some (.int _), some (.int _), some (.int _)]) F dX10_unlike_41 rfl (j_inc _) rfl rfl ?_
        refine v_goto (pc := 44) (tgt := 24) F dX10_unlike_44 (by decide) ?_
        have q := ih (by omega)
        first | (rw [cK_t (k := k) (by simp; omega)] at q; exact q) | (rw [cK_f (k := k) (by simp; omega)] at q; exact q)
      · rw [j_le0 cP_b, cP_congr (P := fun p => μ'.1 16 p == nI k) (Q := fun p => uE μ.1 n set p == nI k) (fun p hp => by simp only [hq.2.1 p hp]; rfl)] at hb
        refine v_iinc (pc := 38) (i := 2) (v := nI (cK (fun s => decide (0 < cP (fun p => uE μ.1 n set p == nI s))) k + 1)) (lo' := [some (.ref _), some (.int _), some (.int _), some (.int _)]) F dX10_unlike_38 rfl (j_inc _) rfl rfl ?_
        refine v_iinc (pc := 41) (i := 3) (v := nI (k + 1)) (lo' := [some (.ref _), some (.int _), some (.int _), some (.int _)]) F dX10_unlike_41 rfl (j_inc _) rfl rfl ?_
        refine v_goto (pc := 44) (tgt := 24) F dX10_unlike_44 (by decide) ?_
        have q := ih (by omega)
        first | (rw [cK_t (k := k) (by simp; omega)] at q; exact q) | (rw [cK_f (k := k) (by simp; omega)] at q; exact q)
  · rw [b2i_0] at h5_2
    refine v_aload_n (pc := 8) (i := 0) F dX10_unlike_8 rfl rfl ?_
    refine v_bipush (pc := 9) (v := (-2)) F dX10_unlike_9 (by decide) ?_
    refine v_callVI (pc := 11) (As := [_]) (rest := []) (c := 10) F mX10_no kX10_96 im_X10_no se_X10_no dX10_unlike_11 rfl rfl (by decide) (c_X10_no (-2) 2 (by decide) (by decide) _) (by decide) rfl rfl (Nat.le_of_ble_eq_true rfl) lm0 (fun x7 μ7 hp7 => ?_)
    rw [hp7.1, hp7.2]
    refine v_ireturn (pc := 14) F dX10_unlike_14 (rfl) ?_
    simp only [s_unlike, rj, hnn, h5_2, ↓reduceIte]
    refine ⟨?_, ?_⟩ <;> first | exact trivial | exact rfl | exact Fm.rf

set_option maxRecDepth 100000 in
theorem c_X10_order (set i : Int32) (μ : j_M) (hM : MI μ) : Ct yX10_order cX10_order 3 (some .int) 2 ΛM [.ref 0, .int set, .int i] μ (pI fun r μ2 => r = (s_order set i μ).1 ∧ Fm PS (s_order set i μ).2 μ2) := by
  refine Ct.go (lo := [some (.ref 0), some (.int set), some (.int i)]) (by decide) (Nat.le_of_ble_eq_true rfl) rfl rfl (fun X F => ?_)
  have F : Fx X cX10_order RX10 2 (some .int) ΛM := F
  obtain ⟨n, hW, hsh, htp, him⟩ := id hM
  have hn := hW.1
  have hn8 := hW.2.1
  have hnn := nn_eq hn hn8
  have ho := hW.own
  have hrw : RW μ.1 n μ := RW.self hn
  have hpw := j_pw hn8
  refine v_aload_n (pc := 0) (i := 0) F dX10_order_0 rfl rfl ?_
  refine v_iload_n (pc := 1) (i := 1) F dX10_order_1 rfl rfl ?_
  refine v_callVI (pc := 2) (As := [_]) (rest := []) (c := 10) F mX10_isSet kX10_234 im_X10_isSet se_X10_isSet dX10_order_2 rfl rfl (by decide) (c_X10_isSet _ n _ (by first | exact hn | assumption) hn8) (by decide) rfl rfl (Nat.le_of_ble_eq_true rfl) lm0 (fun x1 μ1 hp1 => ?_)
  rw [hp1.1, hp1.2]
  refine v_if_eq (pc := 5) (tgt := 22) F dX10_order_5 (by decide) (fun h5_2 => ?_) (fun h5_2 => ?_)
  · rw [b2i_0] at h5_2
    refine v_aload_n (pc := 22) (i := 0) F dX10_order_22 rfl rfl ?_
    refine v_bipush (pc := 23) (v := (-2)) F dX10_order_23 (by decide) ?_
    refine v_callVI (pc := 25) (As := [_]) (rest := []) (c := 10) F mX10_no kX10_96 im_X10_no se_X10_no dX10_order_25 rfl rfl (by decide) (c_X10_no (-2) 2 (by decide) (by decide) _) (by decide) rfl rfl (Nat.le_of_ble_eq_true rfl) lm0 (fun x3 μ3 hp3 => ?_)
    rw [hp3.1, hp3.2]
    refine v_ireturn (pc := 28) F dX10_order_28 (rfl) ?_
    simp only [s_order, rj, hnn, h5_2, ↓reduceIte]
    refine ⟨?_, ?_⟩ <;> first | exact trivial | exact rfl | exact Fm.rf
  · rw [b2i_0] at h5_2
    rw [Classical.not_not] at h5_2
    obtain ⟨k_set, hk_set, he_set⟩ := inR_of (by omega) h5_2
    subst he_set
    have ek_set : ix (nI k_set) = k_set := nI_clamp (by omega)
    refine v_iload_n (pc := 8) (i := 2) F dX10_order_8 rfl rfl ?_
    refine v_iconst (pc := 9) (v := nI 0) F dX10_order_9 (by decide) ?_
    refine v_iload_n (pc := 10) (i := 1) F dX10_order_10 rfl rfl ?_
    refine v_callSI (pc := 11) (As := [_]) (rest := [_, _]) F mJ6_bitCount_0f7a4 kX10_243 sm_J6_bitCount_0f7a4 dX10_order_11 (c_J6_bc _ _ _) (by decide) rfl rfl (Nat.le_of_ble_eq_true rfl) (fun x4 μ4 hp4 => ?_)
    rw [hp4.1, hp4.2]
    refine v_topE (y := nI ((OO μ.1 n (nI k_set)).length)) (by rw [jbc_set (by omega) hk_set, ordO_len]) ?_
    refine v_iconst (pc := 14) (v := nI 1) F dX10_order_14 (by decide) ?_
    refine v_isub (pc := 15) F dX10_order_15 ?_
    refine v_callSI (pc := 16) (As := [_, _, _]) (rest := []) F mX10_within kX10_85 sm_X10_within dX10_order_16 (c_X10_within _ _ _ _) (by decide) rfl rfl (Nat.le_of_ble_eq_true rfl) (fun x5 μ5 hp5 => ?_)
    rw [hp5.1, hp5.2, b2i_congr (j_predN (by rw [ordO_len]; exact Nat.lt_of_le_of_lt (cK_le _ _) (by omega)))]
    refine v_if_ne (pc := 19) (tgt := 29) F dX10_order_19 (by decide) (fun hi => ?_) (fun hi => ?_)
    · rw [b2i_0] at hi
      rw [Classical.not_not] at hi
      have hOL : (OO μ.1 n (nI k_set)).length ≤ n := by rw [ordO_len]; exact cK_le _ _
      obtain ⟨ki, hki, hie⟩ := inR_of (Nat.lt_of_le_of_lt hOL (by omega)) hi
      have hki8 : ki < 8 := Nat.lt_of_lt_of_le hki (Nat.le_trans hOL hn8)
      subst hie
      have eki : ix (nI ki) = ki := ix_nI (by omega)
      refine v_aload_n (pc := 29) (i := 0) F dX10_order_29 rfl rfl ?_
      refine v_iload_n (pc := 30) (i := 1) F dX10_order_30 rfl rfl ?_
      refine v_callVV (pc := 31) (As := [_]) (rest := []) (c := 10) F mX10_orders kX10_222 im_X10_orders se_X10_orders dX10_order_31 rfl rfl (by decide) (c_X10_orders _ n μ hn hn8) (by decide) rfl rfl (Nat.le_of_ble_eq_true rfl) lm0 (fun μ7 hp7 => ?_)
      have hq := hp7
      refine v_aload_n (pc := 34) (i := 0) F dX10_order_34 rfl rfl ?_
      refine v_getR (pc := 35) (o := 17) F fX10_59 dX10_order_35 rfl lm0 ?_
      refine v_topR (y := 17) rfl ?_
      refine v_iload_n (pc := 38) (i := 2) F dX10_order_38 rfl rfl ?_
      refine v_ialdN (pc := 39) (k0 := ki) F dX10_order_39 (lm10_26 lm0) (rfl) (by omega) (by decide) ?_
      refine v_topE (y := nI ((OO μ.1 n (nI k_set)).getD ki 0)) (hq.2.2 ki hki) ?_
      refine v_ireturn (pc := 40) F dX10_order_40 (rfl) ?_
      simp only [s_order, hnn, h5_2, ek_set, hi, eki, ↓reduceIte]
      exact ⟨by first | exact trivial | exact rfl, PB_PS (hq.1.mono (fun c j q => by unfold PO at q; unfold PB; omega))⟩
    · rw [b2i_0] at hi
      refine v_aload_n (pc := 22) (i := 0) F dX10_order_22 rfl rfl ?_
      refine v_bipush (pc := 23) (v := (-2)) F dX10_order_23 (by decide) ?_
      refine v_callVI (pc := 25) (As := [_]) (rest := []) (c := 10) F mX10_no kX10_96 im_X10_no se_X10_no dX10_order_25 rfl rfl (by decide) (c_X10_no (-2) 2 (by decide) (by decide) _) (by decide) rfl rfl (Nat.le_of_ble_eq_true rfl) lm0 (fun x8 μ8 hp8 => ?_)
      rw [hp8.1, hp8.2]
      refine v_ireturn (pc := 28) F dX10_order_28 (rfl) ?_
      simp only [s_order, rj, hnn, h5_2, ek_set, hi, ↓reduceIte]
      refine ⟨?_, ?_⟩ <;> first | exact trivial | exact rfl | exact Fm.rf

set_option maxRecDepth 100000 in
theorem c_X10_without (l : Int32) (μ : j_M) (hM : MI μ) : Ct yX10_without cX10_without 2 (some .int) 6 ΛM [.ref 0, .int l] μ (pI fun r μ2 => r = (s_without l μ).1 ∧ Fm PS (s_without l μ).2 μ2) := by
  refine Ct.go (lo := [some (.ref 0), some (.int l)]) (by decide) (Nat.le_of_ble_eq_true rfl) rfl rfl (fun X F => ?_)
  have F : Fx X cX10_without RX10 6 (some .int) ΛM := F
  obtain ⟨n, hW, hsh, htp, him⟩ := id hM
  have hn := hW.1
  have hn8 := hW.2.1
  have hnn := nn_eq hn hn8
  have ho := hW.own
  have hrw : RW μ.1 n μ := RW.self hn
  have hpw := j_pw hn8
  refine v_aload_n (pc := 0) (i := 0) F dX10_without_0 rfl rfl ?_
  refine v_iload_n (pc := 1) (i := 1) F dX10_without_1 rfl rfl ?_
  refine v_callVI (pc := 2) (As := [_]) (rest := []) (c := 10) F mX10_isLooker kX10_110 im_X10_isLooker se_X10_isLooker dX10_without_2 rfl rfl (by decide) (c_X10_isLooker _ n _ (by first | exact hn | assumption) hn8) (by decide) rfl rfl (Nat.le_of_ble_eq_true rfl) lm0 (fun x1 μ1 hp1 => ?_)
  rw [hp1.1, hp1.2]
  refine v_if_eq (pc := 5) (tgt := 29) F dX10_without_5 (by decide) (fun h5_2 => ?_) (fun h5_2 => ?_)
  · rw [b2i_0] at h5_2
    refine v_aload_n (pc := 29) (i := 0) F dX10_without_29 rfl rfl ?_
    refine v_bipush (pc := 30) (v := (-2)) F dX10_without_30 (by decide) ?_
    refine v_callVI (pc := 32) (As := [_]) (rest := []) (c := 10) F mX10_no kX10_96 im_X10_no se_X10_no dX10_without_32 rfl rfl (by decide) (c_X10_no (-2) 2 (by decide) (by decide) _) (by decide) rfl rfl (Nat.le_of_ble_eq_true rfl) lm0 (fun x3 μ3 hp3 => ?_)
    rw [hp3.1, hp3.2]
    refine v_ireturn (pc := 35) F dX10_without_35 (rfl) ?_
    simp only [s_without, rj, hnn, h5_2, ↓reduceIte]
    refine ⟨?_, ?_⟩ <;> first | exact trivial | exact rfl | exact Fm.rf
  · rw [b2i_0] at h5_2
    rw [Classical.not_not] at h5_2
    obtain ⟨k_l, hk_l, he_l⟩ := inR_of (by omega) h5_2
    subst he_l
    have ek_l : ix (nI k_l) = k_l := nI_clamp (by omega)
    refine v_aload_n (pc := 8) (i := 0) F dX10_without_8 rfl rfl ?_
    refine v_iconst (pc := 9) (v := nI 1) F dX10_without_9 (by decide) ?_
    refine v_aload_n (pc := 10) (i := 0) F dX10_without_10 rfl rfl ?_
    refine v_getI (pc := 11) F fX10_89 dX10_without_11 rfl lm0 ?_
    refine v_topE (hn) ?_
    refine v_ishl (pc := 14) F dX10_without_14 ?_
    refine v_topE (y := nI (2 ^ n)) (j_pow hn8) ?_
    refine v_iconst (pc := 15) (v := nI 1) F dX10_without_15 (by decide) ?_
    refine v_isub (pc := 16) F dX10_without_16 ?_
    refine v_topE (pk_sub (by omega)) ?_
    refine v_iconst (pc := 17) (v := nI 1) F dX10_without_17 (by decide) ?_
    refine v_iload_n (pc := 18) (i := 1) F dX10_without_18 rfl rfl ?_
    refine v_ishl (pc := 19) F dX10_without_19 ?_
    refine v_iconst (pc := 20) (v := (-1)) F dX10_without_20 (by decide) ?_
    refine v_ixor (pc := 21) F dX10_without_21 ?_
    refine v_iand (pc := 22) F dX10_without_22 ?_
    refine v_callVI (pc := 23) (As := [_]) (rest := []) (c := 10) F mX10_gladOf kX10_240 im_X10_gladOf se_X10_gladOf dX10_without_23 rfl rfl (by decide) (c_X10_gladOf _ n μ.1 _ hrw hn8 ho _ rfl) (by decide) rfl rfl (Nat.le_of_ble_eq_true rfl) lm0 (fun x4 μ4 hp4 => ?_)
    rw [hp4.1]
    have hq := hp4.2
    refine v_goto (pc := 26) (tgt := 35) F dX10_without_26 (by decide) ?_
    refine v_ireturn (pc := 35) F dX10_without_35 (rfl) ?_
    simp only [s_without, hnn, h5_2, ek_l, ↓reduceIte]
    exact ⟨by first | exact trivial | exact rfl, PB_PS hq.1⟩

set_option maxRecDepth 100000 in
theorem c_X10_away (l what : Int32) (μ : j_M) (hM : MI μ) : Ct yX10_away cX10_away 6 (some .int) 5 ΛM [.ref 0, .int l, .int what] μ (pI fun r μ2 => r = (s_away l what μ).1 ∧ Fm PS (s_away l what μ).2 μ2) := by
  refine Ct.go (lo := [some (.ref 0), some (.int l), some (.int what), none, none, none]) (by decide) (Nat.le_of_ble_eq_true rfl) rfl rfl (fun X F => ?_)
  have F : Fx X cX10_away RX10 5 (some .int) ΛM := F
  obtain ⟨n, hW, hsh, htp, him⟩ := id hM
  have hn := hW.1
  have hn8 := hW.2.1
  have hnn := nn_eq hn hn8
  have ho := hW.own
  have hrw : RW μ.1 n μ := RW.self hn
  have hpw := j_pw hn8
  refine v_aload_n (pc := 0) (i := 0) F dX10_away_0 rfl rfl ?_
  refine v_iload_n (pc := 1) (i := 1) F dX10_away_1 rfl rfl ?_
  refine v_callVI (pc := 2) (As := [_]) (rest := []) (c := 10) F mX10_isLooker kX10_110 im_X10_isLooker se_X10_isLooker dX10_away_2 rfl rfl (by decide) (c_X10_isLooker _ n _ (by first | exact hn | assumption) hn8) (by decide) rfl rfl (Nat.le_of_ble_eq_true rfl) lm0 (fun x1 μ1 hp1 => ?_)
  rw [hp1.1, hp1.2]
  refine v_if_eq (pc := 5) (tgt := 17) F dX10_away_5 (by decide) (fun h5_2 => ?_) (fun h5_2 => ?_)
  · rw [b2i_0] at h5_2
    refine v_aload_n (pc := 17) (i := 0) F dX10_away_17 rfl rfl ?_
    refine v_bipush (pc := 18) (v := (-2)) F dX10_away_18 (by decide) ?_
    refine v_callVI (pc := 20) (As := [_]) (rest := []) (c := 10) F mX10_no kX10_96 im_X10_no se_X10_no dX10_away_20 rfl rfl (by decide) (c_X10_no (-2) 2 (by decide) (by decide) _) (by decide) rfl rfl (Nat.le_of_ble_eq_true rfl) lm0 (fun x3 μ3 hp3 => ?_)
    rw [hp3.1, hp3.2]
    refine v_ireturn (pc := 23) F dX10_away_23 (rfl) ?_
    simp only [s_away, rj, hnn, h5_2, ↓reduceIte]
    refine ⟨?_, ?_⟩ <;> first | exact trivial | exact rfl | exact Fm.rf
  · rw [b2i_0] at h5_2
    rw [Classical.not_not] at h5_2
    obtain ⟨k_l, hk_l, he_l⟩ := inR_of (by omega) h5_2
    subst he_l
    have ek_l : ix (nI k_l) = k_l := nI_clamp (by omega)
    refine v_iload_n (pc := 8) (i := 2) F dX10_away_8 rfl rfl ?_
    refine v_iconst (pc := 9) (v := nI 0) F dX10_away_9 (by decide) ?_
    refine v_iconst (pc := 10) (v := nI 1) F dX10_away_10 (by decide) ?_
    refine v_callSI (pc := 11) (As := [_, _, _]) (rest := []) F mX10_within kX10_85 sm_X10_within dX10_away_11 (c_X10_withinR _ 1 2 rfl (by decide) _) (by decide) rfl rfl (Nat.le_of_ble_eq_true rfl) (fun x4 μ4 hp4 => ?_)
    rw [hp4.1, hp4.2]
    refine v_if_ne (pc := 14) (tgt := 24) F dX10_away_14 (by decide) (fun h14_5 => ?_) (fun h14_5 => ?_)
    · rw [b2i_0] at h14_5
      rw [Classical.not_not] at h14_5
      obtain ⟨k_what, hk_what, he_what⟩ := inR_of (by decide) h14_5
      subst he_what
      have ek_what : ix (nI k_what) = k_what := nI_clamp (by omega)
      refine v_iconst (pc := 24) (v := nI 1) F dX10_away_24 (by decide) ?_
      refine v_aload_n (pc := 25) (i := 0) F dX10_away_25 rfl rfl ?_
      refine v_getI (pc := 26) F fX10_89 dX10_away_26 rfl lm0 ?_
      refine v_topE (hn) ?_
      refine v_ishl (pc := 29) F dX10_away_29 ?_
      refine v_topE (y := nI (2 ^ n)) (j_pow hn8) ?_
      refine v_iconst (pc := 30) (v := nI 1) F dX10_away_30 (by decide) ?_
      refine v_isub (pc := 31) F dX10_away_31 ?_
      refine v_topE (pk_sub (by omega)) ?_
      refine v_istore_n (pc := 32) (lo' := [some (.ref _), some (.int _), some (.int _), some (.int _), _, _]) F dX10_away_32 rfl rfl (Nat.le_of_ble_eq_true rfl) rfl ?_
      refine v_iconst (pc := 33) (v := (-1)) F dX10_away_33 (by decide) ?_
      refine v_istore (pc := 34) (lo' := [some (.ref _), some (.int _), some (.int _), some (.int _), some (.int _), _]) F dX10_away_34 rfl (Nat.le_of_ble_eq_true rfl) rfl ?_
      refine v_iconst (pc := 36) (v := nI 0) F dX10_away_36 (by decide) ?_
      refine v_istore (pc := 37) (lo' := [some (.ref _), some (.int _), some (.int _), some (.int _), some (.int _), some (.int _)]) F dX10_away_37 rfl (Nat.le_of_ble_eq_true rfl) rfl ?_
      refine j_up ((2 ^ n)) (fun k => ∀ μ' : j_M, (Fm PB μ μ') → V X _ 39 [some (.ref 0), some (.int (nI k_l)), some (.int (nI k_what)), some (.int (nI (2 ^ n - 1))), some (.int (awK μ.1 n k_l k)), some (.int (nI k))] [] μ') (fun k hk ih μ' hI => ?_) 0 (Nat.zero_le _) μ (Fm.rf)
      refine v_iload (pc := 39) (i := 5) F dX10_away_39 rfl ?_
      refine v_iload_n (pc := 41) (i := 3) F dX10_away_41 rfl rfl ?_
      refine v_icmp_gt (pc := 42) (tgt := 104) F dX10_away_42 (by decide) (fun hle => ?_) (fun hle => ?_)
      · rw [nI_ltI (by omega) (by omega)] at hle
        refine v_iload (pc := 104) (i := 4) F dX10_away_104 rfl ?_
        have e : k = 2 ^ n := by omega
        subst e
        refine v_iconst (pc := 106) (v := (-1)) F dX10_away_106 (by decide) ?_
        refine v_icmp_eq (pc := 107) (tgt := 115) F dX10_away_107 (by decide) (fun h107_7 => ?_) (fun h107_7 => ?_)
        · skip
          refine v_iload (pc := 115) (i := 4) F dX10_away_115 rfl ?_
          refine v_goto (pc := 117) (tgt := 125) F dX10_away_117 (by decide) ?_
          refine v_ireturn (pc := 125) F dX10_away_125 (rfl) ?_
          simp only [s_away, hnn, h5_2, ek_l, h14_5, ek_what, hle, h107_7, ↓reduceIte]
          first | exact ⟨hz1, PB_PS hI⟩ | exact ⟨by first | exact trivial | exact rfl, PB_PS hI⟩ | (have e1 : nI k_what = 1 := by rw [hz2]; rfl); simp only [e1, ↓reduceIte]; exact ⟨by first | exact trivial | exact rfl, PB_PS hI⟩ | (have e1 : ¬ nI k_what = 1 := by rw [← j_n1, nI_eq (by omega) (by omega)]; exact hz2); simp only [e1, ↓reduceIte]; exact ⟨by first | exact trivial | exact rfl, PB_PS hI⟩
        · skip
          refine v_iload_n (pc := 110) (i := 2) F dX10_away_110 rfl rfl ?_
          refine v_iconst (pc := 111) (v := nI 1) F dX10_away_111 (by decide) ?_
          refine v_icmp_ne (pc := 112) (tgt := 120) F dX10_away_112 (by decide) (fun hz2 => ?_) (fun hz2 => ?_)
          · rw [nI_eq (by omega) (by omega)] at hz2
            refine v_iload (pc := 120) (i := 4) F dX10_away_120 rfl ?_
            refine v_callSI (pc := 122) (As := [_]) (rest := []) F mJ6_bitCount_0f7a4 kX10_243 sm_J6_bitCount_0f7a4 dX10_away_122 (c_J6_bc _ _ _) (by decide) rfl rfl (Nat.le_of_ble_eq_true rfl) (fun x9 μ9 hp9 => ?_)
            rw [hp9.1, hp9.2]
            refine v_ireturn (pc := 125) F dX10_away_125 (rfl) ?_
            simp only [s_away, hnn, h5_2, ek_l, h14_5, ek_what, hle, h107_7, hz2, ↓reduceIte]
            first | exact ⟨hz1, PB_PS hI⟩ | exact ⟨by first | exact trivial | exact rfl, PB_PS hI⟩ | (have e1 : nI k_what = 1 := by rw [hz2]; rfl); simp only [e1, ↓reduceIte]; exact ⟨by first | exact trivial | exact rfl, PB_PS hI⟩ | (have e1 : ¬ nI k_what = 1 := by rw [← j_n1, nI_eq (by omega) (by omega)]; exact hz2); simp only [e1, ↓reduceIte]; exact ⟨by first | exact trivial | exact rfl, PB_PS hI⟩
          · rw [nI_eq (by omega) (by omega)] at hz2
            refine v_iload (pc := 115) (i := 4) F dX10_away_115 rfl ?_
            refine v_goto (pc := 117) (tgt := 125) F dX10_away_117 (by decide) ?_
            refine v_ireturn (pc := 125) F dX10_away_125 (rfl) ?_
            simp only [s_away, hnn, h5_2, ek_l, h14_5, ek_what, hle, h107_7, hz2, ↓reduceIte]
            first | exact ⟨hz1, PB_PS hI⟩ | exact ⟨by first | exact trivial | exact rfl, PB_PS hI⟩ | (have e1 : nI k_what = 1 := by rw [hz2]; rfl); simp only [e1, ↓reduceIte]; exact ⟨by first | exact trivial | exact rfl, PB_PS hI⟩ | (have e1 : ¬ nI k_what = 1 := by rw [← j_n1, nI_eq (by omega) (by omega)]; exact hz2); simp only [e1, ↓reduceIte]; exact ⟨by first | exact trivial | exact rfl, PB_PS hI⟩
      · rw [nI_ltI (by omega) (by omega)] at hle
        refine v_iload (pc := 45) (i := 5) F dX10_away_45 rfl ?_
        refine v_iload_n (pc := 47) (i := 1) F dX10_away_47 rfl rfl ?_
        refine v_callSI (pc := 48) (As := [_, _]) (rest := []) F mX10_in kX10_194 sm_X10_in dX10_away_48 (c_X10_inN _ k_l (by omega) _) (by decide) rfl rfl (Nat.le_of_ble_eq_true rfl) (fun x10 μ10 hp10 => ?_)
        rw [hp10.1, hp10.2]
        refine v_if_ne (pc := 51) (tgt := 98) F dX10_away_51 (by decide) (fun ha => ?_) (fun ha => ?_)
        · rw [b2i_0] at ha
          rw [Classical.not_not] at ha
          refine v_iinc (pc := 98) (i := 5) (v := nI (k + 1)) (lo' := [some (.ref _), some (.int _), some (.int _), some (.int _), some (.int _), some (.int _)]) F dX10_away_98 rfl (j_inc _) rfl rfl ?_
          refine v_goto (pc := 101) (tgt := 39) F dX10_away_101 (by decide) ?_
          have q := ih (by omega) μ' (by first | exact hI | exact hI.tr hq.1)
          first | (rw [awK_1 ha] at q; exact q) | (rw [awK_2 ha hf1 hf2] at q; exact q) | (rw [awK_3 ha (by first | exact fun z => z.1 hf1 | exact fun z => z.2 hf2) hg] at q; exact q) | (rw [awK_4 ha (by first | exact fun z => z.1 hf1 | exact fun z => z.2 hf2) hg] at q; exact q)
        · rw [b2i_0] at ha
          refine v_iload (pc := 54) (i := 4) F dX10_away_54 rfl ?_
          refine v_iconst (pc := 56) (v := (-1)) F dX10_away_56 (by decide) ?_
          refine v_icmp_eq (pc := 57) (tgt := 76) F dX10_away_57 (by decide) (fun hf1 => ?_) (fun hf1 => ?_)
          · skip
            refine v_aload_n (pc := 76) (i := 0) F dX10_away_76 rfl rfl ?_
            refine v_iload_n (pc := 77) (i := 3) F dX10_away_77 rfl rfl ?_
            refine v_iload (pc := 78) (i := 5) F dX10_away_78 rfl ?_
            refine v_iconst (pc := 80) (v := (-1)) F dX10_away_80 (by decide) ?_
            refine v_ixor (pc := 81) F dX10_away_81 ?_
            refine v_iand (pc := 82) F dX10_away_82 ?_
            refine v_callVV (pc := 83) (As := [_]) (rest := []) (c := 10) F mX10_runs kX10_117 im_X10_runs se_X10_runs dX10_away_83 rfl rfl (by decide) (c_X10_runs _ n μ.1 _ (hrw.keep hI) hn8 ho) (by decide) rfl rfl (Nat.le_of_ble_eq_true rfl) lm0 (fun μ13 hp13 => ?_)
            have hq := hp13
            have hw2 := hrw.keep (hI.tr hq.1)
            generalize μ13 = μ'' at hq hw2 ⊢
            refine v_aload_n (pc := 86) (i := 0) F dX10_away_86 rfl rfl ?_
            refine v_iload_n (pc := 87) (i := 1) F dX10_away_87 rfl rfl ?_
            refine v_callVI (pc := 88) (As := [_]) (rest := []) (c := 10) F mX10_isGlad kX10_231 im_X10_isGlad se_X10_isGlad dX10_away_88 rfl rfl (by decide) (c_X10_isGlad k_l (by omega) _) (by decide) rfl rfl (Nat.le_of_ble_eq_true rfl) lm0 (fun x14 μ14 hp14 => ?_)
            rw [hp14.1, hp14.2]
            refine v_if_eq (pc := 91) (tgt := 98) F dX10_away_91 (by decide) (fun hg => ?_) (fun hg => ?_)
            · rw [b2i_0, gd_eq hw2 hq.2 (by omega)] at hg
              refine v_iinc (pc := 98) (i := 5) (v := nI (k + 1)) (lo' := [some (.ref _), some (.int _), some (.int _), some (.int _), some (.int _), some (.int _)]) F dX10_away_98 rfl (j_inc _) rfl rfl ?_
              refine v_goto (pc := 101) (tgt := 39) F dX10_away_101 (by decide) ?_
              have q := ih (by omega) μ'' (by first | exact hI | exact hI.tr hq.1)
              first | (rw [awK_1 ha] at q; exact q) | (rw [awK_2 ha hf1 hf2] at q; exact q) | (rw [awK_3 ha (by first | exact fun z => z.1 hf1 | exact fun z => z.2 hf2) hg] at q; exact q) | (rw [awK_4 ha (by first | exact fun z => z.1 hf1 | exact fun z => z.2 hf2) hg] at q; exact q)
            · rw [b2i_0, gd_eq hw2 hq.2 (by omega)] at hg
              rw [Classical.not_not] at hg
              refine v_iload (pc := 94) (i := 5) F dX10_away_94 rfl ?_
              refine v_istore (pc := 96) (lo' := [some (.ref _), some (.int _), some (.int _), some (.int _), some (.int _), some (.int _)]) F dX10_away_96 rfl (Nat.le_of_ble_eq_true rfl) rfl ?_
              refine v_iinc (pc := 98) (i := 5) (v := nI (k + 1)) (lo' := [some (.ref _), some (.int _), some (.int _), some (.int _), some (.int _), some (.int _)]) F dX10_away_98 rfl (j_inc _) rfl rfl ?_
              refine v_goto (pc := 101) (tgt := 39) F dX10_away_101 (by decide) ?_
              have q := ih (by omega) μ'' (by first | exact hI | exact hI.tr hq.1)
              first | (rw [awK_1 ha] at q; exact q) | (rw [awK_2 ha hf1 hf2] at q; exact q) | (rw [awK_3 ha (by first | exact fun z => z.1 hf1 | exact fun z => z.2 hf2) hg] at q; exact q) | (rw [awK_4 ha (by first | exact fun z => z.1 hf1 | exact fun z => z.2 hf2) hg] at q; exact q)
          · skip
            refine v_iload (pc := 60) (i := 5) F dX10_away_60 rfl ?_
            refine v_callSI (pc := 62) (As := [_]) (rest := []) F mJ6_bitCount_0f7a4 kX10_243 sm_J6_bitCount_0f7a4 dX10_away_62 (c_J6_bc _ _ _) (by decide) rfl rfl (Nat.le_of_ble_eq_true rfl) (fun x16 μ16 hp16 => ?_)
            rw [hp16.1, hp16.2]
            refine v_iload (pc := 65) (i := 4) F dX10_away_65 rfl ?_
            refine v_callSI (pc := 67) (As := [_]) (rest := [_]) F mJ6_bitCount_0f7a4 kX10_243 sm_J6_bitCount_0f7a4 dX10_away_67 (c_J6_bc _ _ _) (by decide) rfl rfl (Nat.le_of_ble_eq_true rfl) (fun x17 μ17 hp17 => ?_)
            rw [hp17.1, hp17.2]
            refine v_icmp_lt (pc := 70) (tgt := 76) F dX10_away_70 (by decide) (fun hf2 => ?_) (fun hf2 => ?_)
            · skip
              refine v_aload_n (pc := 76) (i := 0) F dX10_away_76 rfl rfl ?_
              refine v_iload_n (pc := 77) (i := 3) F dX10_away_77 rfl rfl ?_
              refine v_iload (pc := 78) (i := 5) F dX10_away_78 rfl ?_
              refine v_iconst (pc := 80) (v := (-1)) F dX10_away_80 (by decide) ?_
              refine v_ixor (pc := 81) F dX10_away_81 ?_
              refine v_iand (pc := 82) F dX10_away_82 ?_
              refine v_callVV (pc := 83) (As := [_]) (rest := []) (c := 10) F mX10_runs kX10_117 im_X10_runs se_X10_runs dX10_away_83 rfl rfl (by decide) (c_X10_runs _ n μ.1 _ (hrw.keep hI) hn8 ho) (by decide) rfl rfl (Nat.le_of_ble_eq_true rfl) lm0 (fun μ19 hp19 => ?_)
              have hq := hp19
              have hw2 := hrw.keep (hI.tr hq.1)
              generalize μ19 = μ'' at hq hw2 ⊢
              refine v_aload_n (pc := 86) (i := 0) F dX10_away_86 rfl rfl ?_
              refine v_iload_n (pc := 87) (i := 1) F dX10_away_87 rfl rfl ?_
              refine v_callVI (pc := 88) (As := [_]) (rest := []) (c := 10) F mX10_isGlad kX10_231 im_X10_isGlad se_X10_isGlad dX10_away_88 rfl rfl (by decide) (c_X10_isGlad k_l (by omega) _) (by decide) rfl rfl (Nat.le_of_ble_eq_true rfl) lm0 (fun x20 μ20 hp20 => ?_)
              rw [hp20.1, hp20.2]
              refine v_if_eq (pc := 91) (tgt := 98) F dX10_away_91 (by decide) (fun hg => ?_) (fun hg => ?_)
              · rw [b2i_0, gd_eq hw2 hq.2 (by omega)] at hg
                refine v_iinc (pc := 98) (i := 5) (v := nI (k + 1)) (lo' := [some (.ref _), some (.int _), some (.int _), some (.int _), some (.int _), some (.int _)]) F dX10_away_98 rfl (j_inc _) rfl rfl ?_
                refine v_goto (pc := 101) (tgt := 39) F dX10_away_101 (by decide) ?_
                have q := ih (by omega) μ'' (by first | exact hI | exact hI.tr hq.1)
                first | (rw [awK_1 ha] at q; exact q) | (rw [awK_2 ha hf1 hf2] at q; exact q) | (rw [awK_3 ha (by first | exact fun z => z.1 hf1 | exact fun z => z.2 hf2) hg] at q; exact q) | (rw [awK_4 ha (by first | exact fun z => z.1 hf1 | exact fun z => z.2 hf2) hg] at q; exact q)
              · rw [b2i_0, gd_eq hw2 hq.2 (by omega)] at hg
                rw [Classical.not_not] at hg
                refine v_iload (pc := 94) (i := 5) F dX10_away_94 rfl ?_
                refine v_istore (pc := 96) (lo' := [some (.ref _), some (.int _), some (.int _), some (.int _), some (.int _), some (.int _)]) F dX10_away_96 rfl (Nat.le_of_ble_eq_true rfl) rfl ?_
                refine v_iinc (pc := 98) (i := 5) (v := nI (k + 1)) (lo' := [some (.ref _), some (.int _), some (.int _), some (.int _), some (.int _), some (.int _)]) F dX10_away_98 rfl (j_inc _) rfl rfl ?_
                refine v_goto (pc := 101) (tgt := 39) F dX10_away_101 (by decide) ?_
                have q := ih (by omega) μ'' (by first | exact hI | exact hI.tr hq.1)
                first | (rw [awK_1 ha] at q; exact q) | (rw [awK_2 ha hf1 hf2] at q; exact q) | (rw [awK_3 ha (by first | exact fun z => z.1 hf1 | exact fun z => z.2 hf2) hg] at q; exact q) | (rw [awK_4 ha (by first | exact fun z => z.1 hf1 | exact fun z => z.2 hf2) hg] at q; exact q)
            · skip
              refine v_goto (pc := 73) (tgt := 98) F dX10_away_73 (by decide) ?_
              refine v_iinc (pc := 98) (i := 5) (v := nI (k + 1)) (lo' := [some (.ref _), some (.int _), some (.int _), some (.int _), some (.int _), some (.int _)]) F dX10_away_98 rfl (j_inc _) rfl rfl ?_
              refine v_goto (pc := 101) (tgt := 39) F dX10_away_101 (by decide) ?_
              have q := ih (by omega) μ' (by first | exact hI | exact hI.tr hq.1)
              first | (rw [awK_1 ha] at q; exact q) | (rw [awK_2 ha hf1 hf2] at q; exact q) | (rw [awK_3 ha (by first | exact fun z => z.1 hf1 | exact fun z => z.2 hf2) hg] at q; exact q) | (rw [awK_4 ha (by first | exact fun z => z.1 hf1 | exact fun z => z.2 hf2) hg] at q; exact q)
    · rw [b2i_0] at h14_5
      refine v_aload_n (pc := 17) (i := 0) F dX10_away_17 rfl rfl ?_
      refine v_bipush (pc := 18) (v := (-2)) F dX10_away_18 (by decide) ?_
      refine v_callVI (pc := 20) (As := [_]) (rest := []) (c := 10) F mX10_no kX10_96 im_X10_no se_X10_no dX10_away_20 rfl rfl (by decide) (c_X10_no (-2) 2 (by decide) (by decide) _) (by decide) rfl rfl (Nat.le_of_ble_eq_true rfl) lm0 (fun x22 μ22 hp22 => ?_)
      rw [hp22.1, hp22.2]
      refine v_ireturn (pc := 23) F dX10_away_23 (rfl) ?_
      simp only [s_away, rj, hnn, h5_2, ek_l, h14_5, ↓reduceIte]
      refine ⟨?_, ?_⟩ <;> first | exact trivial | exact rfl | exact Fm.rf

set_option maxRecDepth 100000 in
theorem c_X10_crowd (k what : Int32) (μ : j_M) (hM : MI μ) : Ct yX10_crowd cX10_crowd 7 (some .int) 6 ΛM [.ref 0, .int k, .int what] μ (pI fun r μ2 => r = (s_crowd k what μ).1 ∧ Fm PS (s_crowd k what μ).2 μ2) := by
  refine Ct.go (lo := [some (.ref 0), some (.int k), some (.int what), none, none, none, none]) (by decide) (Nat.le_of_ble_eq_true rfl) rfl rfl (fun X F => ?_)
  have F : Fx X cX10_crowd RX10 6 (some .int) ΛM := F
  obtain ⟨n, hW, hsh, htp, him⟩ := id hM
  have hn := hW.1
  have hn8 := hW.2.1
  have hnn := nn_eq hn hn8
  have ho := hW.own
  have hrw : RW μ.1 n μ := RW.self hn
  have hpw := j_pw hn8
  refine v_iload_n (pc := 0) (i := 1) F dX10_crowd_0 rfl rfl ?_
  refine v_iconst (pc := 1) (v := nI 0) F dX10_crowd_1 (by decide) ?_
  refine v_aload_n (pc := 2) (i := 0) F dX10_crowd_2 rfl rfl ?_
  refine v_getI (pc := 3) F fX10_89 dX10_crowd_3 rfl lm0 ?_
  refine v_topE (hn) ?_
  refine v_callSI (pc := 6) (As := [_, _, _]) (rest := []) F mX10_within kX10_85 sm_X10_within dX10_crowd_6 (c_X10_withinR _ n (n + 1) rfl (by omega) _) (by decide) rfl rfl (Nat.le_of_ble_eq_true rfl) (fun x1 μ1 hp1 => ?_)
  rw [hp1.1, hp1.2]
  refine v_if_eq (pc := 9) (tgt := 21) F dX10_crowd_9 (by decide) (fun h9_2 => ?_) (fun h9_2 => ?_)
  · rw [b2i_0] at h9_2
    refine v_aload_n (pc := 21) (i := 0) F dX10_crowd_21 rfl rfl ?_
    refine v_bipush (pc := 22) (v := (-2)) F dX10_crowd_22 (by decide) ?_
    refine v_callVI (pc := 24) (As := [_]) (rest := []) (c := 10) F mX10_no kX10_96 im_X10_no se_X10_no dX10_crowd_24 rfl rfl (by decide) (c_X10_no (-2) 2 (by decide) (by decide) _) (by decide) rfl rfl (Nat.le_of_ble_eq_true rfl) lm0 (fun x3 μ3 hp3 => ?_)
    rw [hp3.1, hp3.2]
    refine v_ireturn (pc := 27) F dX10_crowd_27 (rfl) ?_
    simp only [s_crowd, rj, hnn, h9_2, ↓reduceIte]
    refine ⟨?_, ?_⟩ <;> first | exact trivial | exact rfl | exact Fm.rf
  · rw [b2i_0] at h9_2
    rw [Classical.not_not] at h9_2
    refine v_iload_n (pc := 12) (i := 2) F dX10_crowd_12 rfl rfl ?_
    refine v_iconst (pc := 13) (v := nI 0) F dX10_crowd_13 (by decide) ?_
    refine v_iconst (pc := 14) (v := nI 1) F dX10_crowd_14 (by decide) ?_
    refine v_callSI (pc := 15) (As := [_, _, _]) (rest := []) F mX10_within kX10_85 sm_X10_within dX10_crowd_15 (c_X10_withinR _ 1 2 rfl (by decide) _) (by decide) rfl rfl (Nat.le_of_ble_eq_true rfl) (fun x4 μ4 hp4 => ?_)
    rw [hp4.1, hp4.2]
    refine v_if_ne (pc := 18) (tgt := 28) F dX10_crowd_18 (by decide) (fun h18_5 => ?_) (fun h18_5 => ?_)
    · rw [b2i_0] at h18_5
      rw [Classical.not_not] at h18_5
      obtain ⟨k_what, hk_what, he_what⟩ := inR_of (by decide) h18_5
      subst he_what
      have ek_what : ix (nI k_what) = k_what := nI_clamp (by omega)
      refine v_iconst (pc := 28) (v := (-1)) F dX10_crowd_28 (by decide) ?_
      refine v_istore_n (pc := 29) (lo' := [some (.ref _), some (.int _), some (.int _), some (.int _), _, _, _]) F dX10_crowd_29 rfl rfl (Nat.le_of_ble_eq_true rfl) rfl ?_
      refine v_iconst (pc := 30) (v := (-1)) F dX10_crowd_30 (by decide) ?_
      refine v_istore (pc := 31) (lo' := [some (.ref _), some (.int _), some (.int _), some (.int _), some (.int _), _, _]) F dX10_crowd_31 rfl (Nat.le_of_ble_eq_true rfl) rfl ?_
      refine v_iconst (pc := 33) (v := nI 0) F dX10_crowd_33 (by decide) ?_
      refine v_istore (pc := 34) (lo' := [some (.ref _), some (.int _), some (.int _), some (.int _), some (.int _), some (.int _), _]) F dX10_crowd_34 rfl (Nat.le_of_ble_eq_true rfl) rfl ?_
      refine j_up ((2 ^ n)) (fun s => ∀ μ' : j_M, (Fm PB μ μ') → V X _ 36 [some (.ref 0), some (.int k), some (.int (nI k_what)), some (.int ((crK μ.1 n k s).2)), some (.int ((crK μ.1 n k s).1)), some (.int (nI s)), none] [] μ') (fun s hk ih μ' hI => ?_) 0 (Nat.zero_le _) μ (Fm.rf)
      refine v_iload (pc := 36) (i := 5) F dX10_crowd_36 rfl ?_
      refine v_iconst (pc := 38) (v := nI 1) F dX10_crowd_38 (by decide) ?_
      refine v_aload_n (pc := 39) (i := 0) F dX10_crowd_39 rfl rfl ?_
      refine v_getI (pc := 40) F fX10_89 dX10_crowd_40 rfl lm0 ?_
      refine v_topE ((hrw.keep hI).2) ?_
      refine v_ishl (pc := 43) F dX10_crowd_43 ?_
      refine v_topE (y := nI (2 ^ n)) (j_pow hn8) ?_
      refine v_icmp_ge (pc := 44) (tgt := 90) F dX10_crowd_44 (by decide) (fun h44_6 => ?_) (fun h44_6 => ?_)
      · rw [nI_leI (by omega) (by omega)] at h44_6
        refine v_iload_n (pc := 90) (i := 2) F dX10_crowd_90 rfl rfl ?_
        have e : s = 2 ^ n := by omega
        subst e
        refine v_if_ne (pc := 91) (tgt := 99) F dX10_crowd_91 (by decide) (fun hz => ?_) (fun hz => ?_)
        · skip
          refine v_iload_n (pc := 99) (i := 3) F dX10_crowd_99 rfl rfl ?_
          refine v_ireturn (pc := 100) F dX10_crowd_100 (rfl) ?_
          simp only [s_crowd, hnn, h9_2, h18_5, ek_what, h44_6, hz, ↓reduceIte]
          exact ⟨by first | exact trivial | exact rfl, PB_PS hI⟩
        · skip
          refine v_iload (pc := 94) (i := 4) F dX10_crowd_94 rfl ?_
          refine v_goto (pc := 96) (tgt := 100) F dX10_crowd_96 (by decide) ?_
          refine v_ireturn (pc := 100) F dX10_crowd_100 (rfl) ?_
          simp only [s_crowd, hnn, h9_2, h18_5, ek_what, h44_6, hz, ↓reduceIte]
          exact ⟨by first | exact trivial | exact rfl, PB_PS hI⟩
      · rw [nI_leI (by omega) (by omega)] at h44_6
        refine v_iload (pc := 47) (i := 5) F dX10_crowd_47 rfl ?_
        refine v_callSI (pc := 49) (As := [_]) (rest := []) F mJ6_bitCount_0f7a4 kX10_243 sm_J6_bitCount_0f7a4 dX10_crowd_49 (c_J6_bc _ _ _) (by decide) rfl rfl (Nat.le_of_ble_eq_true rfl) (fun x8 μ8 hp8 => ?_)
        rw [hp8.1, hp8.2]
        refine v_iload_n (pc := 52) (i := 1) F dX10_crowd_52 rfl rfl ?_
        refine v_icmp_eq (pc := 53) (tgt := 59) F dX10_crowd_53 (by decide) (fun ha => ?_) (fun ha => ?_)
        · skip
          refine v_aload_n (pc := 59) (i := 0) F dX10_crowd_59 rfl rfl ?_
          refine v_iload (pc := 60) (i := 5) F dX10_crowd_60 rfl ?_
          refine v_callVI (pc := 62) (As := [_]) (rest := []) (c := 10) F mX10_gladOf kX10_240 im_X10_gladOf se_X10_gladOf dX10_crowd_62 rfl rfl (by decide) (c_X10_gladOf _ n μ.1 _ (hrw.keep hI) hn8 ho _ rfl) (by decide) rfl rfl (Nat.le_of_ble_eq_true rfl) lm0 (fun x10 μ10 hp10 => ?_)
          rw [hp10.1]
          have hq := hp10.2
          generalize μ10 = μ'' at hq ⊢
          refine v_istore (pc := 65) (lo' := [some (.ref _), some (.int _), some (.int _), some (.int _), some (.int _), some (.int _), some (.int _)]) F dX10_crowd_65 rfl (Nat.le_of_ble_eq_true rfl) rfl ?_
          refine v_iload (pc := 67) (i := 6) F dX10_crowd_67 rfl ?_
          refine v_iload (pc := 69) (i := 4) F dX10_crowd_69 rfl ?_
          refine v_icmp_gt (pc := 71) (tgt := 77) F dX10_crowd_71 (by decide) (fun hb => ?_) (fun hb => ?_)
          · skip
            refine v_iload (pc := 77) (i := 6) F dX10_crowd_77 rfl ?_
            refine v_istore (pc := 79) (lo' := [some (.ref _), some (.int _), some (.int _), some (.int _), some (.int _), some (.int _), some (.int _)]) F dX10_crowd_79 rfl (Nat.le_of_ble_eq_true rfl) rfl ?_
            refine v_iload (pc := 81) (i := 5) F dX10_crowd_81 rfl ?_
            refine v_istore_n (pc := 83) (lo' := [some (.ref _), some (.int _), some (.int _), some (.int _), some (.int _), some (.int _), some (.int _)]) F dX10_crowd_83 rfl rfl (Nat.le_of_ble_eq_true rfl) rfl ?_
            refine v_iinc (pc := 84) (i := 5) (v := nI (s + 1)) (lo' := [some (.ref _), some (.int _), some (.int _), some (.int _), some (.int _), some (.int _), some (.int _)]) F dX10_crowd_84 rfl (j_inc _) rfl rfl ?_
            refine v_goto (pc := 87) (tgt := 36) F dX10_crowd_87 (by decide) ?_
            refine v_drop (i := 6) (lo' := [some (.ref _), some (.int _), some (.int _), some (.int _), some (.int _), some (.int _), _]) rfl ?_
            have q := ih (by omega) μ'' (by first | exact hI | exact hI.tr hq.1)
            first | (rw [crK_1 ha] at q; exact q) | (rw [crK_2 ha hb] at q; exact q) | (rw [crK_3 ha hb] at q; exact q)
          · skip
            refine v_goto (pc := 74) (tgt := 84) F dX10_crowd_74 (by decide) ?_
            refine v_iinc (pc := 84) (i := 5) (v := nI (s + 1)) (lo' := [some (.ref _), some (.int _), some (.int _), some (.int _), some (.int _), some (.int _), some (.int _)]) F dX10_crowd_84 rfl (j_inc _) rfl rfl ?_
            refine v_goto (pc := 87) (tgt := 36) F dX10_crowd_87 (by decide) ?_
            refine v_drop (i := 6) (lo' := [some (.ref _), some (.int _), some (.int _), some (.int _), some (.int _), some (.int _), _]) rfl ?_
            have q := ih (by omega) μ'' (by first | exact hI | exact hI.tr hq.1)
            first | (rw [crK_1 ha] at q; exact q) | (rw [crK_2 ha hb] at q; exact q) | (rw [crK_3 ha hb] at q; exact q)
        · skip
          refine v_goto (pc := 56) (tgt := 84) F dX10_crowd_56 (by decide) ?_
          refine v_iinc (pc := 84) (i := 5) (v := nI (s + 1)) (lo' := [some (.ref _), some (.int _), some (.int _), some (.int _), some (.int _), some (.int _), _]) F dX10_crowd_84 rfl (j_inc _) rfl rfl ?_
          refine v_goto (pc := 87) (tgt := 36) F dX10_crowd_87 (by decide) ?_
          have q := ih (by omega) μ' (by first | exact hI | exact hI.tr hq.1)
          first | (rw [crK_1 ha] at q; exact q) | (rw [crK_2 ha hb] at q; exact q) | (rw [crK_3 ha hb] at q; exact q)
    · rw [b2i_0] at h18_5
      refine v_aload_n (pc := 21) (i := 0) F dX10_crowd_21 rfl rfl ?_
      refine v_bipush (pc := 22) (v := (-2)) F dX10_crowd_22 (by decide) ?_
      refine v_callVI (pc := 24) (As := [_]) (rest := []) (c := 10) F mX10_no kX10_96 im_X10_no se_X10_no dX10_crowd_24 rfl rfl (by decide) (c_X10_no (-2) 2 (by decide) (by decide) _) (by decide) rfl rfl (Nat.le_of_ble_eq_true rfl) lm0 (fun x12 μ12 hp12 => ?_)
      rw [hp12.1, hp12.2]
      refine v_ireturn (pc := 27) F dX10_crowd_27 (rfl) ?_
      simp only [s_crowd, rj, hnn, h9_2, h18_5, ↓reduceIte]
      refine ⟨?_, ?_⟩ <;> first | exact trivial | exact rfl | exact Fm.rf
