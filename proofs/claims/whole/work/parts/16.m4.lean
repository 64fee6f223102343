/-! the reference's public methods: what each answers, and the memory behind it (but for what a call overwrites) -/
def ix (x : Int32) : Nat := x.toNatClampNeg
abbrev nn (μ : j_M) : Nat := ix (μ.1 0 1)
def TH (x : Int32) : Prop := x = -1 ∨ ∃ s, s < 8 ∧ x = nI s
def WI (w : Nat → Nat → Int32) (n : Nat) : Prop := w 0 1 = nI n ∧ n ≤ 8 ∧ (∀ p, p < 12 → TH (w 1 p)) ∧ ∀ l, l < n → (∃ k, k < 6 ∧ w 2 l = nI k) ∧ (∃ a, a < 8 ∧ w 3 l = nI a) ∧ TH (w 7 l)
def wold (w : Nat → Nat → Int32) : Nat → Nat → Int32 := fun c j => w 14 (if c = 0 then (if j = 1 then 124 else if j = 9 then 125 else 126) else if c = 1 then j else if c = 8 then 60 + j else 12 + 8 * (c - 2) + j)
def SH (n : Nat) (h len : Int32) : Prop := h = -1 ∨ ((∃ j, j < 5 ∧ h = nI j) ∧ ∃ m, m ≤ 40 ∧ len = nI m) ∨ ∃ l, l < n ∧ h = nI (10 + l)
def MI (μ : j_M) : Prop := ∃ n, WI μ.1 n ∧ (∀ s, s < 8 → SH n (μ.1 10 s) (μ.1 11 s)) ∧ (∃ t, t ≤ 250 ∧ μ.1 0 11 = nI t) ∧ (μ.1 0 21 = 0 ∨ (μ.1 0 21 = 1 ∧ ∃ n0, WI (wold μ.1) n0))
abbrev PS (c j : Nat) : Prop := 15 ≤ c ∨ (c = 0 ∧ ((13 ≤ j ∧ j ≤ 16) ∨ j = 25))
theorem PB_PS {μ μ' : j_M} (h : Fm PB μ μ') : Fm PS μ μ' := h.mono (fun c j q => by unfold PB at q; unfold PS; omega)
def rj (c : Int32) (k : Nat) (μ : j_M) : Int32 × j_M := (c, j_pI μ 13 k (μ.1 13 k + 1))
theorem WI.own {w : Nat → Nat → Int32} {n : Nat} (h : WI w n) : ∀ l, l < n → ¬ w 3 l = -1 := by
  intro l hl
  obtain ⟨a, h1, h2⟩ := (h.2.2.2 l hl).2.1
  rw [h2]
  exact j_m1 (by omega)
theorem nn_eq {μ : j_M} {n : Nat} (h : μ.1 0 1 = nI n) (h8 : n ≤ 8) : nn μ = n := by
  unfold nn ix; rw [h]; exact nI_clamp (by omega)
def zr (μ : j_M) (k i : Nat) : j_M := (μ.1, fun c j => if c = 12 ∧ 40 * k ≤ j ∧ j < 40 * k + i then 0 else μ.2 c j)
theorem zr_0 (μ : j_M) (k : Nat) : μ = zr μ k 0 := by
  unfold zr
  refine Prod.ext rfl ?_
  funext c j
  exact (if_neg (by omega)).symm
theorem zr_s (μ : j_M) (k i : Nat) : j_pL (zr μ k i) 12 (40 * k + i) 0 = zr μ k (i + 1) := by
  unfold zr j_pL
  refine Prod.ext rfl ?_
  funext c j
  show (if c = 12 ∧ j = 40 * k + i then (0 : Int64) else if c = 12 ∧ 40 * k ≤ j ∧ j < 40 * k + i then 0 else μ.2 c j) = (if c = 12 ∧ 40 * k ≤ j ∧ j < 40 * k + (i + 1) then 0 else μ.2 c j)
  by_cases h : c = 12 ∧ j = 40 * k + i
  · rw [if_pos h, if_pos (by omega)]
  · rw [if_neg h]
    by_cases h2 : c = 12 ∧ 40 * k ≤ j ∧ j < 40 * k + i
    · rw [if_pos h2, if_pos (by omega)]
    · rw [if_neg h2, if_neg (by omega)]
def s_row (s so n : Int32) (μ : j_M) : Int32 × j_M := if inQ 8 s = true then (if inQ 5 so = true then (if inQ 41 n = true then (1, zr (j_pI (j_pI μ 10 (ix s) so) 11 (ix s) n) (ix s) 40) else rj (-2) 2 μ) else rj (-2) 2 μ) else rj (-2) 2 μ

set_option maxRecDepth 100000 in
theorem c_X10_row (s so n0 : Int32) (μ : j_M) (hM : MI μ) : Ct yX10_row cX10_row 5 (some .int) 2 ΛM [.ref 0, .int s, .int so, .int n0] μ (pI fun r μ2 => r = (s_row s so n0 μ).1 ∧ Fm PS (s_row s so n0 μ).2 μ2) := by
  refine Ct.go (lo := [some (.ref 0), some (.int s), some (.int so), some (.int n0), none]) (by decide) (Nat.le_of_ble_eq_true rfl) rfl rfl (fun X F => ?_)
  have F : Fx X cX10_row RX10 2 (some .int) ΛM := F
  obtain ⟨n, hW, hsh, htp, him⟩ := id hM
  have hn := hW.1
  have hn8 := hW.2.1
  have hnn := nn_eq hn hn8
  have ho := hW.own
  have hrw : RW μ.1 n μ := RW.self hn
  refine v_iload_n (pc := 0) (i := 1) F dX10_row_0 rfl rfl ?_
  refine v_callSI (pc := 1) (As := [_]) (rest := []) F mX10_isShelf kX10_92 sm_X10_isShelf dX10_row_1 (c_X10_isShelf _ _) (by decide) rfl rfl (Nat.le_of_ble_eq_true rfl) (fun x1 μ1 hp1 => ?_)
  rw [hp1.1, hp1.2]
  refine v_if_eq (pc := 4) (tgt := 26) F dX10_row_4 (by decide) (fun h4_2 => ?_) (fun h4_2 => ?_)
  · rw [b2i_0] at h4_2
    refine v_aload_n (pc := 26) (i := 0) F dX10_row_26 rfl rfl ?_
    refine v_bipush (pc := 27) (v := (-2)) F dX10_row_27 (by decide) ?_
    refine v_callVI (pc := 29) (As := [_]) (rest := []) (c := 10) F mX10_no kX10_96 im_X10_no se_X10_no dX10_row_29 rfl rfl (by decide) (c_X10_no (-2) 2 (by decide) (by decide) _) (by decide) rfl rfl (Nat.le_of_ble_eq_true rfl) lm0 (fun x3 μ3 hp3 => ?_)
    rw [hp3.1, hp3.2]
    refine v_ireturn (pc := 32) F dX10_row_32 (rfl) ?_
    simp only [s_row, rj, hnn, h4_2, ↓reduceIte]
    refine ⟨?_, ?_⟩ <;> first | exact trivial | exact rfl | exact Fm.rf
  · rw [b2i_0] at h4_2
    rw [Classical.not_not] at h4_2
    obtain ⟨k_s, hk_s, he_s⟩ := inR_of (by decide) h4_2
    subst he_s
    have ek_s : ix (nI k_s) = k_s := nI_clamp (by omega)
    refine v_iload_n (pc := 7) (i := 2) F dX10_row_7 rfl rfl ?_
    refine v_iconst (pc := 8) (v := nI 0) F dX10_row_8 (by decide) ?_
    refine v_iconst (pc := 9) (v := nI 4) F dX10_row_9 (by decide) ?_
    refine v_callSI (pc := 10) (As := [_, _, _]) (rest := []) F mX10_within kX10_85 sm_X10_within dX10_row_10 (c_X10_withinR _ 4 5 rfl (by decide) _) (by decide) rfl rfl (Nat.le_of_ble_eq_true rfl) (fun x4 μ4 hp4 => ?_)
    rw [hp4.1, hp4.2]
    refine v_if_eq (pc := 13) (tgt := 26) F dX10_row_13 (by decide) (fun h13_5 => ?_) (fun h13_5 => ?_)
    · rw [b2i_0] at h13_5
      refine v_aload_n (pc := 26) (i := 0) F dX10_row_26 rfl rfl ?_
      refine v_bipush (pc := 27) (v := (-2)) F dX10_row_27 (by decide) ?_
      refine v_callVI (pc := 29) (As := [_]) (rest := []) (c := 10) F mX10_no kX10_96 im_X10_no se_X10_no dX10_row_29 rfl rfl (by decide) (c_X10_no (-2) 2 (by decide) (by decide) _) (by decide) rfl rfl (Nat.le_of_ble_eq_true rfl) lm0 (fun x6 μ6 hp6 => ?_)
      rw [hp6.1, hp6.2]
      refine v_ireturn (pc := 32) F dX10_row_32 (rfl) ?_
      simp only [s_row, rj, hnn, h4_2, ek_s, h13_5, ↓reduceIte]
      refine ⟨?_, ?_⟩ <;> first | exact trivial | exact rfl | exact Fm.rf
    · rw [b2i_0] at h13_5
      rw [Classical.not_not] at h13_5
      obtain ⟨k_so, hk_so, he_so⟩ := inR_of (by decide) h13_5
      subst he_so
      have ek_so : ix (nI k_so) = k_so := nI_clamp (by omega)
      refine v_iload_n (pc := 16) (i := 3) F dX10_row_16 rfl rfl ?_
      refine v_iconst (pc := 17) (v := nI 0) F dX10_row_17 (by decide) ?_
      refine v_bipush (pc := 18) (v := nI 40) F dX10_row_18 (by decide) ?_
      refine v_callSI (pc := 20) (As := [_, _, _]) (rest := []) F mX10_within kX10_85 sm_X10_within dX10_row_20 (c_X10_withinR _ 40 41 rfl (by decide) _) (by decide) rfl rfl (Nat.le_of_ble_eq_true rfl) (fun x7 μ7 hp7 => ?_)
      rw [hp7.1, hp7.2]
      refine v_if_ne (pc := 23) (tgt := 33) F dX10_row_23 (by decide) (fun h23_8 => ?_) (fun h23_8 => ?_)
      · rw [b2i_0] at h23_8
        rw [Classical.not_not] at h23_8
        obtain ⟨k_n0, hk_n0, he_n0⟩ := inR_of (by decide) h23_8
        subst he_n0
        have ek_n0 : ix (nI k_n0) = k_n0 := nI_clamp (by omega)
        refine v_aload_n (pc := 33) (i := 0) F dX10_row_33 rfl rfl ?_
        refine v_getR (pc := 34) (o := 10) F fX10_37 dX10_row_34 rfl lm0 ?_
        refine v_topR (y := 10) rfl ?_
        refine v_iload_n (pc := 37) (i := 1) F dX10_row_37 rfl rfl ?_
        refine v_iload_n (pc := 38) (i := 2) F dX10_row_38 rfl rfl ?_
        refine v_iastN (pc := 39) (k0 := k_s) F dX10_row_39 (lm10_17 lm0) (rfl) (by omega) (by decide) ?_
        refine v_aload_n (pc := 40) (i := 0) F dX10_row_40 rfl rfl ?_
        refine v_getR (pc := 41) (o := 11) F fX10_40 dX10_row_41 rfl lm0 ?_
        refine v_topR (y := 11) rfl ?_
        refine v_iload_n (pc := 44) (i := 1) F dX10_row_44 rfl rfl ?_
        refine v_iload_n (pc := 45) (i := 3) F dX10_row_45 rfl rfl ?_
        refine v_iastN (pc := 46) (k0 := k_s) F dX10_row_46 (lm10_18 lm0) (rfl) (by omega) (by decide) ?_
        refine v_iconst (pc := 47) (v := nI 0) F dX10_row_47 (by decide) ?_
        refine v_istore (pc := 48) (lo' := [some (.ref _), some (.int _), some (.int _), some (.int _), some (.int _)]) F dX10_row_48 rfl (Nat.le_of_ble_eq_true rfl) rfl ?_
        refine v_mem (zr_0 _ k_s) ?_
        refine j_up 40 (fun i => V X _ 50 [some (.ref 0), some (.int (nI k_s)), some (.int (nI k_so)), some (.int (nI k_n0)), some (.int (nI i))] [] (zr (j_pI (j_pI μ 10 k_s (nI k_so)) 11 k_s (nI k_n0)) k_s i)) (fun i hi ih => ?_) 0 (Nat.zero_le _)
        refine v_iload (pc := 50) (i := 4) F dX10_row_50 rfl ?_
        refine v_bipush (pc := 52) (v := nI 40) F dX10_row_52 (by decide) ?_
        refine v_icmp_ge (pc := 54) (tgt := 76) F dX10_row_54 (by decide) (fun h54_9 => ?_) (fun h54_9 => ?_)
        · rw [nI_leI (by omega) (by omega)] at h54_9
          refine v_iconst (pc := 76) (v := nI 1) F dX10_row_76 (by decide) ?_
          refine v_ireturn (pc := 77) F dX10_row_77 (rfl) ?_
          have e : i = 40 := by omega
          subst e
          simp only [s_row, hnn, h4_2, ek_s, h13_5, ek_so, h23_8, ek_n0, h54_9, ↓reduceIte]
          refine ⟨?_, ?_⟩ <;> first | exact trivial | exact rfl | exact Fm.rf
        · rw [nI_leI (by omega) (by omega)] at h54_9
          refine v_aload_n (pc := 57) (i := 0) F dX10_row_57 rfl rfl ?_
          refine v_getR (pc := 58) (o := 12) F fX10_43 dX10_row_58 rfl lm0 ?_
          refine v_topR (y := 12) rfl ?_
          refine v_bipush (pc := 61) (v := nI 40) F dX10_row_61 (by decide) ?_
          refine v_iload_n (pc := 63) (i := 1) F dX10_row_63 rfl rfl ?_
          refine v_imul (pc := 64) F dX10_row_64 ?_
          refine v_topE (pk_mul _ _) ?_
          refine v_iload (pc := 65) (i := 4) F dX10_row_65 rfl ?_
          refine v_iadd (pc := 67) F dX10_row_67 ?_
          refine v_topE (nI_add _ _) ?_
          refine v_lconst (pc := 68) (v := 0) F dX10_row_68 (by decide) ?_
          refine v_lastN (pc := 69) (k0 := 40 * k_s + i) F dX10_row_69 (lm10_19 lm0) (rfl) (by omega) (by decide) ?_
          refine v_iinc (pc := 70) (i := 4) (v := nI (i + 1)) (lo' := [some (.ref _), some (.int _), some (.int _), some (.int _), some (.int _)]) F dX10_row_70 rfl (j_inc _) rfl rfl ?_
          refine v_goto (pc := 73) (tgt := 50) F dX10_row_73 (by decide) ?_
          refine v_mem (zr_s _ _ _) (ih (by omega))
      · rw [b2i_0] at h23_8
        refine v_aload_n (pc := 26) (i := 0) F dX10_row_26 rfl rfl ?_
        refine v_bipush (pc := 27) (v := (-2)) F dX10_row_27 (by decide) ?_
        refine v_callVI (pc := 29) (As := [_]) (rest := []) (c := 10) F mX10_no kX10_96 im_X10_no se_X10_no dX10_row_29 rfl rfl (by decide) (c_X10_no (-2) 2 (by decide) (by decide) _) (by decide) rfl rfl (Nat.le_of_ble_eq_true rfl) lm0 (fun x10 μ10 hp10 => ?_)
        rw [hp10.1, hp10.2]
        refine v_ireturn (pc := 32) F dX10_row_32 (rfl) ?_
        simp only [s_row, rj, hnn, h4_2, ek_s, h13_5, ek_so, h23_8, ↓reduceIte]
        refine ⟨?_, ?_⟩ <;> first | exact trivial | exact rfl | exact Fm.rf

theorem SH_row {n : Nat} {h len : Int32} (q : SH n h len) (hn : n ≤ 8) (hr : inQ 5 h = true) : (∃ j, j < 5 ∧ h = nI j) ∧ ∃ m, m ≤ 40 ∧ len = nI m := by
  rcases q with q | q | ⟨l, h1, h2⟩
  · subst q; exact absurd hr (by decide)
  · exact q
  · subst h2
    obtain ⟨k, q1, q2⟩ := inR_of (by decide) hr
    have := (nI_eq (by omega) (by omega)).mp q2
    omega
theorem SH_no {n : Nat} {h len : Int32} (q : SH n h len) (hr : ¬ inQ 5 h = true) : h = -1 ∨ ∃ l, l < n ∧ h = nI (10 + l) := by
  rcases q with q | ⟨⟨j, h1, h2⟩, -⟩ | q
  · exact Or.inl q
  · exact absurd ((inR_iff (by decide)).mpr ⟨j, h1, h2⟩) hr
  · exact Or.inr q
theorem j_predN {m : Nat} {v : Int32} (hm : m < 2 ^ 31) : (nI 0 ≤ v ∧ v ≤ nI m - nI 1) = (inQ m v = true) := by
  rcases Nat.eq_zero_or_pos m with h | h
  · subst h
    rw [propext inQ_def]
    refine propext ⟨fun ⟨h1, h2⟩ => ?_, fun ⟨h1, h2⟩ => ?_⟩
    · exact absurd (Int32.le_trans h1 h2) (by decide)
    · exact absurd (Int32.lt_of_le_of_lt h1 h2) (by decide)
  · rw [pk_sub h]
    exact j_wi (by omega) hm
theorem ix_nI {k : Nat} (h : k < 2 ^ 31) : ix (nI k) = k := nI_clamp h
def keptJ (so : Int32) (v : Int64) : Int64 := if so = 0 then v.toInt32.toInt8.toInt32.toInt64 else if so = 1 then v.toInt32.toInt16.toInt32.toInt64 else if so = 2 then v.toInt32.toInt64 else if so = 3 then v else if v = 0 then 0 else 1
theorem j_sw03 {x : Int32} (h0 : ¬ x = 0) (h1 : ¬ x = 1) (h2 : ¬ x = 2) (h3 : ¬ x = 3) : x.toInt < 0 ∨ 3 < x.toInt := by
  have a := tI h0
  have b := tI h1
  have c := tI h2
  have d := tI h3
  have e0 : (0 : Int32).toInt = 0 := by decide
  have e1 : (1 : Int32).toInt = 1 := by decide
  have e2 : (2 : Int32).toInt = 2 := by decide
  have e3 : (3 : Int32).toInt = 3 := by decide
  omega
theorem j_sw05 {x : Int32} (h0 : ¬ x = 0) (h1 : ¬ x = 1) (h2 : ¬ x = 2) (h3 : ¬ x = 3) (h4 : ¬ x = 4) (h5 : ¬ x = 5) : x.toInt < 0 ∨ 5 < x.toInt := by
  have q := j_sw03 h0 h1 h2 h3
  have c := tI h4
  have d := tI h5
  have e4 : (4 : Int32).toInt = 4 := by decide
  have e5 : (5 : Int32).toInt = 5 := by decide
  omega
def s_set (s i : Int32) (v : Int64) (μ : j_M) : Int32 × j_M := if inQ 8 s = true then (if inQ 5 (μ.1 10 (ix s)) = true then (if inQ (ix (μ.1 11 (ix s))) i = true then (1, j_pL μ 12 (40 * ix s + ix i) (keptJ (μ.1 10 (ix s)) v)) else rj (-2) 2 μ) else if μ.1 10 (ix s) = -1 then rj (-4) 4 μ else rj (-3) 3 μ) else rj (-2) 2 μ
def s_element (s i : Int32) (μ : j_M) : Int64 × j_M := if inQ 8 s = true then (if inQ 5 (μ.1 10 (ix s)) = true then (if inQ (ix (μ.1 11 (ix s))) i = true then (μ.2 12 (40 * ix s + ix i), μ) else (0, μ)) else (0, μ)) else (0, μ)
def s_holds (s : Int32) (μ : j_M) : Int32 × j_M := if inQ 8 s = true then (μ.1 10 (ix s), μ) else (-1, μ)
def s_show (s l : Int32) (μ : j_M) : Int32 × j_M := if inQ 8 s = true then (if l = -1 then (1, j_pI μ 10 (ix s) (-1)) else if inQ (nn μ) l = true then (1, j_pI μ 10 (ix s) (nI (10 + ix l))) else rj (-2) 2 μ) else rj (-2) 2 μ
def s_place (p so : Int32) (μ : j_M) : Int32 × j_M := if inQ 12 p = true then (if inM so = true then (μ.1 1 (ix p), j_pI μ 1 (ix p) so) else rj (-2) 2 μ) else rj (-2) 2 μ
def zh (μ : j_M) (n i : Nat) : j_M := (fun c j => if c = 8 ∧ 8 * n ≤ j ∧ j < 8 * n + i then 0 else μ.1 c j, μ.2)
theorem zh_0 (μ : j_M) (k : Nat) : μ = zh μ k 0 := by
  unfold zh
  refine Prod.ext ?_ rfl
  funext c j
  exact (if_neg (by omega)).symm
theorem zh_s (μ : j_M) (k i : Nat) : j_pI (zh μ k i) 8 (8 * k + i) (nI 0) = zh μ k (i + 1) := by
  unfold zh j_pI
  refine Prod.ext ?_ rfl
  funext c j
  show (if c = 8 ∧ j = 8 * k + i then (0 : Int32) else if c = 8 ∧ 8 * k ≤ j ∧ j < 8 * k + i then 0 else μ.1 c j) = (if c = 8 ∧ 8 * k ≤ j ∧ j < 8 * k + (i + 1) then 0 else μ.1 c j)
  by_cases h : c = 8 ∧ j = 8 * k + i
  · rw [if_pos h, if_pos (by omega)]
  · rw [if_neg h]
    by_cases h2 : c = 8 ∧ 8 * k ≤ j ∧ j < 8 * k + i
    · rw [if_pos h2, if_pos (by omega)]
    · rw [if_neg h2, if_neg (by omega)]
theorem zh_o {μ : j_M} {n i c j : Nat} (h : c ≠ 8) : (zh μ n i).1 c j = μ.1 c j := if_neg (by omega)
def m_nl (μ : j_M) (n : Nat) (k a g : Int32) : j_M := j_pI (zh (j_pI (j_pI (j_pI (j_pI (j_pI (j_pI μ 2 n k) 3 n a) 4 n g) 5 n (nI 0)) 6 n (nI 6)) 7 n (-1)) n 8) 0 1 (nI (n + 1))
def s_looker (k a g : Int32) (μ : j_M) : Int32 × j_M := if inQ 6 k = true then (if inQ 8 a = true then (if inQ 100 g = true then (if nn μ = 8 then rj (-6) 6 μ else (nI (nn μ), m_nl μ (nn μ) k a g)) else rj (-2) 2 μ) else rj (-2) 2 μ) else rj (-2) 2 μ
def s_likes (l so is : Int32) (μ : j_M) : Int32 × j_M := if inQ (nn μ) l = true then (if inQ 8 so = true then ((μ.1 5 (ix l) >>> (so &&& 31)) &&& 1, j_pI μ 5 (ix l) (if is = 0 then μ.1 5 (ix l) &&& (((1 : Int32) <<< (so &&& 31)) ^^^ (-1)) else μ.1 5 (ix l) ||| ((1 : Int32) <<< (so &&& 31)))) else rj (-2) 2 μ) else rj (-2) 2 μ
def s_tell (l what v : Int32) (μ : j_M) : Int32 × j_M := if inQ (nn μ) l = true then (if inQ 3 what = true then (if what = 0 then (if inQ 13 v = true then (μ.1 6 (ix l), j_pI μ 6 (ix l) v) else rj (-2) 2 μ) else if what = 1 then (if inQ 100 v = true then (μ.1 4 (ix l), j_pI μ 4 (ix l) v) else rj (-2) 2 μ) else (if inM v = true then (μ.1 7 (ix l), j_pI μ 7 (ix l) v) else rj (-2) 2 μ)) else rj (-2) 2 μ) else rj (-2) 2 μ
def s_feed (c : Int32) (μ : j_M) : Int32 × j_M := if inQ 256 c = true then (if ix (μ.1 0 11) = 250 then rj (-6) 6 μ else (nI (ix (μ.1 0 11) + 1), j_pI (j_pI μ 0 11 (nI (ix (μ.1 0 11) + 1))) 9 (ix (μ.1 0 11)) c)) else rj (-2) 2 μ
def s_wipe (μ : j_M) : Int32 × j_M := (μ.1 0 11, j_pI μ 0 11 (nI 0))
def s_sortAt (p : Int32) (μ : j_M) : Int32 × j_M := if inQ 12 p = true then (μ.1 1 (ix p), μ) else rj (-2) 2 μ
def s_lookerOf (l what : Int32) (μ : j_M) : Int32 × j_M := if inQ (nn μ) l = true then (if what = 0 then (μ.1 2 (ix l), μ) else if what = 1 then (μ.1 3 (ix l), μ) else if what = 2 then (μ.1 4 (ix l), μ) else if what = 3 then (μ.1 5 (ix l), μ) else if what = 4 then (μ.1 6 (ix l), μ) else if what = 5 then (μ.1 7 (ix l), μ) else if inB 10 17 what = true then (μ.1 8 (8 * ix l + ix what - 10), μ) else rj (-2) 2 μ) else rj (-2) 2 μ
def s_seed (v : Int32) (μ : j_M) : Int32 × j_M := (μ.1 0 10, j_pI μ 0 10 v)

set_option maxRecDepth 100000 in
theorem c_X10_kept (so : Int32) (v : Int64) (μ : j_M) : Ct yX10_kept cX10_kept 3 (some .long) 0 ΛM [.int so, .long v] μ (pJ fun r μ2 => r = keptJ so v ∧ μ2 = μ) := by
  refine Ct.go (lo := [some (.int so), some (.long v), none]) (by decide) (Nat.le_of_ble_eq_true rfl) rfl rfl (fun X F => ?_)
  have F : Fx X cX10_kept RX10 0 (some .long) ΛM := F
  refine v_iload_n (pc := 0) (i := 0) F dX10_kept_0 rfl rfl ?_
  by_cases hs0 : so = 0
  · refine v_tin (pc := 1) (tgt := 32) F dX10_kept_1 (by rw [hs0]; decide) (by rw [hs0]; decide) (by rw [hs0]; rfl) (by decide) ?_
    refine v_lload_n (pc := 32) (i := 1) F dX10_kept_32 rfl rfl ?_
    refine v_l2i (pc := 33) F dX10_kept_33 ?_
    refine v_i2b (pc := 34) F dX10_kept_34 ?_
    refine v_i2l (pc := 35) F dX10_kept_35 ?_
    refine v_lreturn (pc := 36) F dX10_kept_36 ?_
    refine ⟨?_, rfl⟩
    unfold keptJ
    first | (rw [if_pos hs0]; done) | (rw [if_neg hs0, if_pos hs1]; done) | (rw [if_neg hs0, if_neg hs1, if_pos hs2]; done) | (rw [if_neg hs0, if_neg hs1, if_neg hs2, if_pos hs3]; done) | (rw [if_neg hs0, if_neg hs1, if_neg hs2, if_neg hs3, if_pos hv]; done) | (rw [if_neg hs0, if_neg hs1, if_neg hs2, if_neg hs3, if_neg hv]; done)
  by_cases hs1 : so = 1
  · refine v_tin (pc := 1) (tgt := 37) F dX10_kept_1 (by rw [hs1]; decide) (by rw [hs1]; decide) (by rw [hs1]; rfl) (by decide) ?_
    refine v_lload_n (pc := 37) (i := 1) F dX10_kept_37 rfl rfl ?_
    refine v_l2i (pc := 38) F dX10_kept_38 ?_
    refine v_i2s (pc := 39) F dX10_kept_39 ?_
    refine v_i2l (pc := 40) F dX10_kept_40 ?_
    refine v_lreturn (pc := 41) F dX10_kept_41 ?_
    refine ⟨?_, rfl⟩
    unfold keptJ
    first | (rw [if_pos hs0]; done) | (rw [if_neg hs0, if_pos hs1]; done) | (rw [if_neg hs0, if_neg hs1, if_pos hs2]; done) | (rw [if_neg hs0, if_neg hs1, if_neg hs2, if_pos hs3]; done) | (rw [if_neg hs0, if_neg hs1, if_neg hs2, if_neg hs3, if_pos hv]; done) | (rw [if_neg hs0, if_neg hs1, if_neg hs2, if_neg hs3, if_neg hv]; done)
  by_cases hs2 : so = 2
  · refine v_tin (pc := 1) (tgt := 42) F dX10_kept_1 (by rw [hs2]; decide) (by rw [hs2]; decide) (by rw [hs2]; rfl) (by decide) ?_
    refine v_lload_n (pc := 42) (i := 1) F dX10_kept_42 rfl rfl ?_
    refine v_l2i (pc := 43) F dX10_kept_43 ?_
    refine v_i2l (pc := 44) F dX10_kept_44 ?_
    refine v_lreturn (pc := 45) F dX10_kept_45 ?_
    refine ⟨?_, rfl⟩
    unfold keptJ
    first | (rw [if_pos hs0]; done) | (rw [if_neg hs0, if_pos hs1]; done) | (rw [if_neg hs0, if_neg hs1, if_pos hs2]; done) | (rw [if_neg hs0, if_neg hs1, if_neg hs2, if_pos hs3]; done) | (rw [if_neg hs0, if_neg hs1, if_neg hs2, if_neg hs3, if_pos hv]; done) | (rw [if_neg hs0, if_neg hs1, if_neg hs2, if_neg hs3, if_neg hv]; done)
  by_cases hs3 : so = 3
  · refine v_tin (pc := 1) (tgt := 46) F dX10_kept_1 (by rw [hs3]; decide) (by rw [hs3]; decide) (by rw [hs3]; rfl) (by decide) ?_
    refine v_lload_n (pc := 46) (i := 1) F dX10_kept_46 rfl rfl ?_
    refine v_lreturn (pc := 47) F dX10_kept_47 ?_
    refine ⟨?_, rfl⟩
    unfold keptJ
    first | (rw [if_pos hs0]; done) | (rw [if_neg hs0, if_pos hs1]; done) | (rw [if_neg hs0, if_neg hs1, if_pos hs2]; done) | (rw [if_neg hs0, if_neg hs1, if_neg hs2, if_pos hs3]; done) | (rw [if_neg hs0, if_neg hs1, if_neg hs2, if_neg hs3, if_pos hv]; done) | (rw [if_neg hs0, if_neg hs1, if_neg hs2, if_neg hs3, if_neg hv]; done)
  refine v_tout (pc := 1) (tgt := 48) F dX10_kept_1 (j_sw03 hs0 hs1 hs2 hs3) (by decide) ?_
  refine v_lload_n (pc := 48) (i := 1) F dX10_kept_48 rfl rfl ?_
  refine v_lconst (pc := 49) (v := 0) F dX10_kept_49 (by decide) ?_
  refine v_lcmp (pc := 50) F dX10_kept_50 ?_
  refine v_if_eq (pc := 51) (tgt := 58) F dX10_kept_51 (by decide) (fun hv => ?_) (fun hv => ?_)
  · rw [lg_cmp_eq] at hv
    refine v_lconst (pc := 58) (v := 0) F dX10_kept_58 (by decide) ?_
    refine v_lreturn (pc := 59) F dX10_kept_59 ?_
    refine ⟨?_, rfl⟩
    unfold keptJ
    first | (rw [if_pos hs0]; done) | (rw [if_neg hs0, if_pos hs1]; done) | (rw [if_neg hs0, if_neg hs1, if_pos hs2]; done) | (rw [if_neg hs0, if_neg hs1, if_neg hs2, if_pos hs3]; done) | (rw [if_neg hs0, if_neg hs1, if_neg hs2, if_neg hs3, if_pos hv]; done) | (rw [if_neg hs0, if_neg hs1, if_neg hs2, if_neg hs3, if_neg hv]; done)
  · rw [lg_cmp_eq] at hv
    refine v_lconst (pc := 54) (v := 1) F dX10_kept_54 (by decide) ?_
    refine v_goto (pc := 55) (tgt := 59) F dX10_kept_55 (by decide) ?_
    refine v_lreturn (pc := 59) F dX10_kept_59 ?_
    refine ⟨?_, rfl⟩
    unfold keptJ
    first | (rw [if_pos hs0]; done) | (rw [if_neg hs0, if_pos hs1]; done) | (rw [if_neg hs0, if_neg hs1, if_pos hs2]; done) | (rw [if_neg hs0, if_neg hs1, if_neg hs2, if_pos hs3]; done) | (rw [if_neg hs0, if_neg hs1, if_neg hs2, if_neg hs3, if_pos hv]; done) | (rw [if_neg hs0, if_neg hs1, if_neg hs2, if_neg hs3, if_neg hv]; done)

set_option maxRecDepth 100000 in
theorem c_X10_set (s i : Int32) (v : Int64) (μ : j_M) (hM : MI μ) : Ct yX10_set cX10_set 5 (some .int) 2 ΛM [.ref 0, .int s, .int i, .long v] μ (pI fun r μ2 => r = (s_set s i v μ).1 ∧ Fm PS (s_set s i v μ).2 μ2) := by
  refine Ct.go (lo := [some (.ref 0), some (.int s), some (.int i), some (.long v), none]) (by decide) (Nat.le_of_ble_eq_true rfl) rfl rfl (fun X F => ?_)
  have F : Fx X cX10_set RX10 2 (some .int) ΛM := F
  obtain ⟨n, hW, hsh, htp, him⟩ := id hM
  have hn := hW.1
  have hn8 := hW.2.1
  have hnn := nn_eq hn hn8
  have ho := hW.own
  have hrw : RW μ.1 n μ := RW.self hn
  refine v_iload_n (pc := 0) (i := 1) F dX10_set_0 rfl rfl ?_
  refine v_callSI (pc := 1) (As := [_]) (rest := []) F mX10_isShelf kX10_92 sm_X10_isShelf dX10_set_1 (c_X10_isShelf _ _) (by decide) rfl rfl (Nat.le_of_ble_eq_true rfl) (fun x1 μ1 hp1 => ?_)
  rw [hp1.1, hp1.2]
  refine v_if_ne (pc := 4) (tgt := 14) F dX10_set_4 (by decide) (fun h4_2 => ?_) (fun h4_2 => ?_)
  · rw [b2i_0] at h4_2
    rw [Classical.not_not] at h4_2
    obtain ⟨k_s, hk_s, he_s⟩ := inR_of (by decide) h4_2
    subst he_s
    have ek_s : ix (nI k_s) = k_s := nI_clamp (by omega)
    refine v_aload_n (pc := 14) (i := 0) F dX10_set_14 rfl rfl ?_
    refine v_iload_n (pc := 15) (i := 1) F dX10_set_15 rfl rfl ?_
    refine v_callVI (pc := 16) (As := [_]) (rest := []) (c := 10) F mX10_isRow kX10_100 im_X10_isRow se_X10_isRow dX10_set_16 rfl rfl (by decide) (c_X10_isRow k_s (by omega) _) (by decide) rfl rfl (Nat.le_of_ble_eq_true rfl) lm0 (fun x3 μ3 hp3 => ?_)
    rw [hp3.1, hp3.2]
    refine v_if_ne (pc := 19) (tgt := 32) F dX10_set_19 (by decide) (fun hro => ?_) (fun hro => ?_)
    · rw [b2i_0] at hro
      rw [Classical.not_not] at hro
      obtain ⟨⟨j5, hj5, hhj⟩, m, hm, hlm⟩ := SH_row (hsh k_s (by omega)) hn8 hro
      have ekm : ix (μ.1 11 k_s) = m := by rw [hlm]; exact ix_nI (by omega)
      refine v_iload_n (pc := 32) (i := 2) F dX10_set_32 rfl rfl ?_
      refine v_iconst (pc := 33) (v := nI 0) F dX10_set_33 (by decide) ?_
      refine v_aload_n (pc := 34) (i := 0) F dX10_set_34 rfl rfl ?_
      refine v_getR (pc := 35) (o := 11) F fX10_40 dX10_set_35 rfl lm0 ?_
      refine v_topR (y := 11) rfl ?_
      refine v_iload_n (pc := 38) (i := 1) F dX10_set_38 rfl rfl ?_
      refine v_ialdN (pc := 39) (k0 := k_s) F dX10_set_39 (lm10_18 lm0) (rfl) (by omega) (by decide) ?_
      refine v_topE (y := nI m) (hlm) ?_
      refine v_iconst (pc := 40) (v := nI 1) F dX10_set_40 (by decide) ?_
      refine v_isub (pc := 41) F dX10_set_41 ?_
      refine v_callSI (pc := 42) (As := [_, _, _]) (rest := []) F mX10_within kX10_85 sm_X10_within dX10_set_42 (c_X10_within _ _ _ _) (by decide) rfl rfl (Nat.le_of_ble_eq_true rfl) (fun x5 μ5 hp5 => ?_)
      rw [hp5.1, hp5.2, b2i_congr (j_predN (by omega))]
      refine v_if_ne (pc := 45) (tgt := 55) F dX10_set_45 (by decide) (fun h45_6 => ?_) (fun h45_6 => ?_)
      · rw [b2i_0] at h45_6
        rw [Classical.not_not] at h45_6
        obtain ⟨k_i, hk_i, he_i⟩ := inR_of (by omega) h45_6
        subst he_i
        have ek_i : ix (nI k_i) = k_i := nI_clamp (by omega)
        refine v_aload_n (pc := 55) (i := 0) F dX10_set_55 rfl rfl ?_
        refine v_getR (pc := 56) (o := 12) F fX10_43 dX10_set_56 rfl lm0 ?_
        refine v_topR (y := 12) rfl ?_
        refine v_bipush (pc := 59) (v := nI 40) F dX10_set_59 (by decide) ?_
        refine v_iload_n (pc := 61) (i := 1) F dX10_set_61 rfl rfl ?_
        refine v_imul (pc := 62) F dX10_set_62 ?_
        refine v_topE (pk_mul _ _) ?_
        refine v_iload_n (pc := 63) (i := 2) F dX10_set_63 rfl rfl ?_
        refine v_iadd (pc := 64) F dX10_set_64 ?_
        refine v_topE (nI_add _ _) ?_
        refine v_aload_n (pc := 65) (i := 0) F dX10_set_65 rfl rfl ?_
        refine v_getR (pc := 66) (o := 10) F fX10_37 dX10_set_66 rfl lm0 ?_
        refine v_topR (y := 10) rfl ?_
        refine v_iload_n (pc := 69) (i := 1) F dX10_set_69 rfl rfl ?_
        refine v_ialdN (pc := 70) (k0 := k_s) F dX10_set_70 (lm10_17 lm0) (rfl) (by omega) (by decide) ?_
        refine v_lload_n (pc := 71) (i := 3) F dX10_set_71 rfl rfl ?_
        refine v_callSJ (pc := 72) (As := [_, _]) (rest := [_, _]) F mX10_kept kX10_106 sm_X10_kept dX10_set_72 (c_X10_kept _ _ _) (by decide) rfl rfl (Nat.le_of_ble_eq_true rfl) (fun x7 μ7 hp7 => ?_)
        rw [hp7.1, hp7.2]
        refine v_lastN (pc := 75) (k0 := 40 * k_s + k_i) F dX10_set_75 (lm10_19 lm0) (rfl) (by omega) (by decide) ?_
        refine v_iconst (pc := 76) (v := nI 1) F dX10_set_76 (by decide) ?_
        refine v_ireturn (pc := 77) F dX10_set_77 (rfl) ?_
        simp only [s_set, rj, hnn, h4_2, ek_s, hro, ekm, h45_6, ek_i, ↓reduceIte]
        refine ⟨?_, ?_⟩ <;> first | exact trivial | exact rfl | exact Fm.rf
      · rw [b2i_0] at h45_6
        refine v_aload_n (pc := 48) (i := 0) F dX10_set_48 rfl rfl ?_
        refine v_bipush (pc := 49) (v := (-2)) F dX10_set_49 (by decide) ?_
        refine v_callVI (pc := 51) (As := [_]) (rest := []) (c := 10) F mX10_no kX10_96 im_X10_no se_X10_no dX10_set_51 rfl rfl (by decide) (c_X10_no (-2) 2 (by decide) (by decide) _) (by decide) rfl rfl (Nat.le_of_ble_eq_true rfl) lm0 (fun x8 μ8 hp8 => ?_)
        rw [hp8.1, hp8.2]
        refine v_ireturn (pc := 54) F dX10_set_54 (rfl) ?_
        simp only [s_set, rj, hnn, h4_2, ek_s, hro, ekm, h45_6, ↓reduceIte]
        refine ⟨?_, ?_⟩ <;> first | exact trivial | exact rfl | exact Fm.rf
    · rw [b2i_0] at hro
      have hq := SH_no (hsh k_s (by omega)) hro
      refine v_aload_n (pc := 22) (i := 0) F dX10_set_22 rfl rfl ?_
      refine v_aload_n (pc := 23) (i := 0) F dX10_set_23 rfl rfl ?_
      refine v_iload_n (pc := 24) (i := 1) F dX10_set_24 rfl rfl ?_
      refine v_callVI (pc := 25) (As := [_]) (rest := [_]) (c := 10) F mX10_noRow kX10_103 im_X10_noRow se_X10_noRow dX10_set_25 rfl rfl (by decide) (c_X10_noRow k_s (by omega) _) (by decide) rfl rfl (Nat.le_of_ble_eq_true rfl) lm0 (fun x9 μ9 hp9 => ?_)
      rw [hp9.1, hp9.2]
      rcases hq with hq | ⟨l9, hl9, hq⟩
      · skip
        refine v_topE (y := -4) (by rw [hq]; rfl) ?_
        refine v_callVI (pc := 28) (As := [_]) (rest := []) (c := 10) F mX10_no kX10_96 im_X10_no se_X10_no dX10_set_28 rfl rfl (by decide) (c_X10_no (-4) 4 (by decide) (by decide) _) (by decide) rfl rfl (Nat.le_of_ble_eq_true rfl) lm0 (fun x10 μ10 hp10 => ?_)
        rw [hp10.1, hp10.2]
        refine v_ireturn (pc := 31) F dX10_set_31 (rfl) ?_
        simp only [s_set, rj, hnn, h4_2, ek_s, hro, hro, ↓reduceIte]
        refine ⟨?_, ?_⟩ <;> first | exact trivial | (simp only [hq, ↓reduceIte]; first | exact trivial | exact rfl | exact Fm.rf) | (simp only [hq2, ↓reduceIte]; first | exact trivial | exact rfl | exact Fm.rf)
      · skip
        refine v_topE (y := -3) (by rw [hq, if_pos ((nI_leI (by omega) (by omega)).mpr (by omega))]) ?_
        have hq2 : ¬ μ.1 10 k_s = -1 := by rw [hq]; exact j_m1 (by omega)
        refine v_callVI (pc := 28) (As := [_]) (rest := []) (c := 10) F mX10_no kX10_96 im_X10_no se_X10_no dX10_set_28 rfl rfl (by decide) (c_X10_no (-3) 3 (by decide) (by decide) _) (by decide) rfl rfl (Nat.le_of_ble_eq_true rfl) lm0 (fun x11 μ11 hp11 => ?_)
        rw [hp11.1, hp11.2]
        refine v_ireturn (pc := 31) F dX10_set_31 (rfl) ?_
        simp only [s_set, rj, hnn, h4_2, ek_s, hro, hro, ↓reduceIte]
        refine ⟨?_, ?_⟩ <;> first | exact trivial | (simp only [hq, ↓reduceIte]; first | exact trivial | exact rfl | exact Fm.rf) | (simp only [hq2, ↓reduceIte]; first | exact trivial | exact rfl | exact Fm.rf)
  · rw [b2i_0] at h4_2
    refine v_aload_n (pc := 7) (i := 0) F dX10_set_7 rfl rfl ?_
    refine v_bipush (pc := 8) (v := (-2)) F dX10_set_8 (by decide) ?_
    refine v_callVI (pc := 10) (As := [_]) (rest := []) (c := 10) F mX10_no kX10_96 im_X10_no se_X10_no dX10_set_10 rfl rfl (by decide) (c_X10_no (-2) 2 (by decide) (by decide) _) (by decide) rfl rfl (Nat.le_of_ble_eq_true rfl) lm0 (fun x12 μ12 hp12 => ?_)
    rw [hp12.1, hp12.2]
    refine v_ireturn (pc := 13) F dX10_set_13 (rfl) ?_
    simp only [s_set, rj, hnn, h4_2, ↓reduceIte]
    refine ⟨?_, ?_⟩ <;> first | exact trivial | exact rfl | exact Fm.rf

set_option maxRecDepth 100000 in
theorem c_X10_element (s i : Int32) (μ : j_M) (hM : MI μ) : Ct yX10_element cX10_element 3 (some .long) 2 ΛM [.ref 0, .int s, .int i] μ (pJ fun r μ2 => r = (s_element s i μ).1 ∧ Fm PS (s_element s i μ).2 μ2) := by
  refine Ct.go (lo := [some (.ref 0), some (.int s), some (.int i)]) (by decide) (Nat.le_of_ble_eq_true rfl) rfl rfl (fun X F => ?_)
  have F : Fx X cX10_element RX10 2 (some .long) ΛM := F
  obtain ⟨n, hW, hsh, htp, him⟩ := id hM
  have hn := hW.1
  have hn8 := hW.2.1
  have hnn := nn_eq hn hn8
  have ho := hW.own
  have hrw : RW μ.1 n μ := RW.self hn
  refine v_iload_n (pc := 0) (i := 1) F dX10_element_0 rfl rfl ?_
  refine v_callSI (pc := 1) (As := [_]) (rest := []) F mX10_isShelf kX10_92 sm_X10_isShelf dX10_element_1 (c_X10_isShelf _ _) (by decide) rfl rfl (Nat.le_of_ble_eq_true rfl) (fun x1 μ1 hp1 => ?_)
  rw [hp1.1, hp1.2]
  refine v_if_eq (pc := 4) (tgt := 45) F dX10_element_4 (by decide) (fun h4_2 => ?_) (fun h4_2 => ?_)
  · rw [b2i_0] at h4_2
    refine v_lconst (pc := 45) (v := 0) F dX10_element_45 (by decide) ?_
    refine v_lreturn (pc := 46) F dX10_element_46 ?_
    simp only [s_element, hnn, h4_2, ↓reduceIte]
    refine ⟨?_, ?_⟩ <;> first | exact trivial | exact rfl | exact Fm.rf
  · rw [b2i_0] at h4_2
    rw [Classical.not_not] at h4_2
    obtain ⟨k_s, hk_s, he_s⟩ := inR_of (by decide) h4_2
    subst he_s
    have ek_s : ix (nI k_s) = k_s := nI_clamp (by omega)
    refine v_aload_n (pc := 7) (i := 0) F dX10_element_7 rfl rfl ?_
    refine v_iload_n (pc := 8) (i := 1) F dX10_element_8 rfl rfl ?_
    refine v_callVI (pc := 9) (As := [_]) (rest := []) (c := 10) F mX10_isRow kX10_100 im_X10_isRow se_X10_isRow dX10_element_9 rfl rfl (by decide) (c_X10_isRow k_s (by omega) _) (by decide) rfl rfl (Nat.le_of_ble_eq_true rfl) lm0 (fun x3 μ3 hp3 => ?_)
    rw [hp3.1, hp3.2]
    refine v_if_eq (pc := 12) (tgt := 45) F dX10_element_12 (by decide) (fun hro => ?_) (fun hro => ?_)
    · rw [b2i_0] at hro
      refine v_lconst (pc := 45) (v := 0) F dX10_element_45 (by decide) ?_
      refine v_lreturn (pc := 46) F dX10_element_46 ?_
      simp only [s_element, hnn, h4_2, ek_s, hro, ↓reduceIte]
      refine ⟨?_, ?_⟩ <;> first | exact trivial | exact rfl | exact Fm.rf
    · rw [b2i_0] at hro
      rw [Classical.not_not] at hro
      obtain ⟨⟨j5, hj5, hhj⟩, m, hm, hlm⟩ := SH_row (hsh k_s (by omega)) hn8 hro
      have ekm : ix (μ.1 11 k_s) = m := by rw [hlm]; exact ix_nI (by omega)
      refine v_iload_n (pc := 15) (i := 2) F dX10_element_15 rfl rfl ?_
      refine v_iconst (pc := 16) (v := nI 0) F dX10_element_16 (by decide) ?_
      refine v_aload_n (pc := 17) (i := 0) F dX10_element_17 rfl rfl ?_
      refine v_getR (pc := 18) (o := 11) F fX10_40 dX10_element_18 rfl lm0 ?_
      refine v_topR (y := 11) rfl ?_
      refine v_iload_n (pc := 21) (i := 1) F dX10_element_21 rfl rfl ?_
      refine v_ialdN (pc := 22) (k0 := k_s) F dX10_element_22 (lm10_18 lm0) (rfl) (by omega) (by decide) ?_
      refine v_topE (y := nI m) (hlm) ?_
      refine v_iconst (pc := 23) (v := nI 1) F dX10_element_23 (by decide) ?_
      refine v_isub (pc := 24) F dX10_element_24 ?_
      refine v_callSI (pc := 25) (As := [_, _, _]) (rest := []) F mX10_within kX10_85 sm_X10_within dX10_element_25 (c_X10_within _ _ _ _) (by decide) rfl rfl (Nat.le_of_ble_eq_true rfl) (fun x5 μ5 hp5 => ?_)
      rw [hp5.1, hp5.2, b2i_congr (j_predN (by omega))]
      refine v_if_eq (pc := 28) (tgt := 45) F dX10_element_28 (by decide) (fun h28_6 => ?_) (fun h28_6 => ?_)
      · rw [b2i_0] at h28_6
        refine v_lconst (pc := 45) (v := 0) F dX10_element_45 (by decide) ?_
        refine v_lreturn (pc := 46) F dX10_element_46 ?_
        simp only [s_element, hnn, h4_2, ek_s, hro, ekm, h28_6, ↓reduceIte]
        refine ⟨?_, ?_⟩ <;> first | exact trivial | exact rfl | exact Fm.rf
      · rw [b2i_0] at h28_6
        rw [Classical.not_not] at h28_6
        obtain ⟨k_i, hk_i, he_i⟩ := inR_of (by omega) h28_6
        subst he_i
        have ek_i : ix (nI k_i) = k_i := nI_clamp (by omega)
        refine v_aload_n (pc := 31) (i := 0) F dX10_element_31 rfl rfl ?_
        refine v_getR (pc := 32) (o := 12) F fX10_43 dX10_element_32 rfl lm0 ?_
        refine v_topR (y := 12) rfl ?_
        refine v_bipush (pc := 35) (v := nI 40) F dX10_element_35 (by decide) ?_
        refine v_iload_n (pc := 37) (i := 1) F dX10_element_37 rfl rfl ?_
        refine v_imul (pc := 38) F dX10_element_38 ?_
        refine v_topE (pk_mul _ _) ?_
        refine v_iload_n (pc := 39) (i := 2) F dX10_element_39 rfl rfl ?_
        refine v_iadd (pc := 40) F dX10_element_40 ?_
        refine v_topE (nI_add _ _) ?_
        refine v_laldN (pc := 41) (k0 := 40 * k_s + k_i) F dX10_element_41 (lm10_19 lm0) (rfl) (by omega) (by decide) ?_
        refine v_goto (pc := 42) (tgt := 46) F dX10_element_42 (by decide) ?_
        refine v_lreturn (pc := 46) F dX10_element_46 ?_
        simp only [s_element, hnn, h4_2, ek_s, hro, ekm, h28_6, ek_i, ↓reduceIte]
        refine ⟨?_, ?_⟩ <;> first | exact trivial | exact rfl | exact Fm.rf

set_option maxRecDepth 100000 in
theorem c_X10_holds (s : Int32) (μ : j_M) (hM : MI μ) : Ct yX10_holds cX10_holds 2 (some .int) 2 ΛM [.ref 0, .int s] μ (pI fun r μ2 => r = (s_holds s μ).1 ∧ Fm PS (s_holds s μ).2 μ2) := by
  refine Ct.go (lo := [some (.ref 0), some (.int s)]) (by decide) (Nat.le_of_ble_eq_true rfl) rfl rfl (fun X F => ?_)
  have F : Fx X cX10_holds RX10 2 (some .int) ΛM := F
  obtain ⟨n, hW, hsh, htp, him⟩ := id hM
  have hn := hW.1
  have hn8 := hW.2.1
  have hnn := nn_eq hn hn8
  have ho := hW.own
  have hrw : RW μ.1 n μ := RW.self hn
  refine v_iload_n (pc := 0) (i := 1) F dX10_holds_0 rfl rfl ?_
  refine v_callSI (pc := 1) (As := [_]) (rest := []) F mX10_isShelf kX10_92 sm_X10_isShelf dX10_holds_1 (c_X10_isShelf _ _) (by decide) rfl rfl (Nat.le_of_ble_eq_true rfl) (fun x1 μ1 hp1 => ?_)
  rw [hp1.1, hp1.2]
  refine v_if_eq (pc := 4) (tgt := 16) F dX10_holds_4 (by decide) (fun h4_2 => ?_) (fun h4_2 => ?_)
  · rw [b2i_0] at h4_2
    refine v_iconst (pc := 16) (v := (-1)) F dX10_holds_16 (by decide) ?_
    refine v_ireturn (pc := 17) F dX10_holds_17 (rfl) ?_
    simp only [s_holds, hnn, h4_2, ↓reduceIte]
    refine ⟨?_, ?_⟩ <;> first | exact trivial | exact rfl | exact Fm.rf
  · rw [b2i_0] at h4_2
    rw [Classical.not_not] at h4_2
    obtain ⟨k_s, hk_s, he_s⟩ := inR_of (by decide) h4_2
    subst he_s
    have ek_s : ix (nI k_s) = k_s := nI_clamp (by omega)
    refine v_aload_n (pc := 7) (i := 0) F dX10_holds_7 rfl rfl ?_
    refine v_getR (pc := 8) (o := 10) F fX10_37 dX10_holds_8 rfl lm0 ?_
    refine v_topR (y := 10) rfl ?_
    refine v_iload_n (pc := 11) (i := 1) F dX10_holds_11 rfl rfl ?_
    refine v_ialdN (pc := 12) (k0 := k_s) F dX10_holds_12 (lm10_17 lm0) (rfl) (by omega) (by decide) ?_
    refine v_goto (pc := 13) (tgt := 17) F dX10_holds_13 (by decide) ?_
    refine v_ireturn (pc := 17) F dX10_holds_17 (rfl) ?_
    simp only [s_holds, hnn, h4_2, ek_s, ↓reduceIte]
    refine ⟨?_, ?_⟩ <;> first | exact trivial | exact rfl | exact Fm.rf

set_option maxRecDepth 100000 in
theorem c_X10_show (s l : Int32) (μ : j_M) (hM : MI μ) : Ct yX10_show cX10_show 3 (some .int) 2 ΛM [.ref 0, .int s, .int l] μ (pI fun r μ2 => r = (s_show s l μ).1 ∧ Fm PS (s_show s l μ).2 μ2) := by
  refine Ct.go (lo := [some (.ref 0), some (.int s), some (.int l)]) (by decide) (Nat.le_of_ble_eq_true rfl) rfl rfl (fun X F => ?_)
  have F : Fx X cX10_show RX10 2 (some .int) ΛM := F
  obtain ⟨n, hW, hsh, htp, him⟩ := id hM
  have hn := hW.1
  have hn8 := hW.2.1
  have hnn := nn_eq hn hn8
  have ho := hW.own
  have hrw : RW μ.1 n μ := RW.self hn
  refine v_iload_n (pc := 0) (i := 1) F dX10_show_0 rfl rfl ?_
  refine v_callSI (pc := 1) (As := [_]) (rest := []) F mX10_isShelf kX10_92 sm_X10_isShelf dX10_show_1 (c_X10_isShelf _ _) (by decide) rfl rfl (Nat.le_of_ble_eq_true rfl) (fun x1 μ1 hp1 => ?_)
  rw [hp1.1, hp1.2]
  refine v_if_eq (pc := 4) (tgt := 20) F dX10_show_4 (by decide) (fun h4_2 => ?_) (fun h4_2 => ?_)
  · rw [b2i_0] at h4_2
    refine v_aload_n (pc := 20) (i := 0) F dX10_show_20 rfl rfl ?_
    refine v_bipush (pc := 21) (v := (-2)) F dX10_show_21 (by decide) ?_
    refine v_callVI (pc := 23) (As := [_]) (rest := []) (c := 10) F mX10_no kX10_96 im_X10_no se_X10_no dX10_show_23 rfl rfl (by decide) (c_X10_no (-2) 2 (by decide) (by decide) _) (by decide) rfl rfl (Nat.le_of_ble_eq_true rfl) lm0 (fun x3 μ3 hp3 => ?_)
    rw [hp3.1, hp3.2]
    refine v_ireturn (pc := 26) F dX10_show_26 (rfl) ?_
    simp only [s_show, rj, hnn, h4_2, ↓reduceIte]
    try simp only [hl1, ↓reduceIte]
    refine ⟨?_, ?_⟩ <;> first | exact trivial | exact rfl | exact Fm.rf
  · rw [b2i_0] at h4_2
    rw [Classical.not_not] at h4_2
    obtain ⟨k_s, hk_s, he_s⟩ := inR_of (by decide) h4_2
    subst he_s
    have ek_s : ix (nI k_s) = k_s := nI_clamp (by omega)
    refine v_iload_n (pc := 7) (i := 2) F dX10_show_7 rfl rfl ?_
    refine v_iconst (pc := 8) (v := (-1)) F dX10_show_8 (by decide) ?_
    refine v_icmp_eq (pc := 9) (tgt := 27) F dX10_show_9 (by decide) (fun hl1 => ?_) (fun hl1 => ?_)
    · skip
      subst hl1
      refine v_aload_n (pc := 27) (i := 0) F dX10_show_27 rfl rfl ?_
      refine v_getR (pc := 28) (o := 10) F fX10_37 dX10_show_28 rfl lm0 ?_
      refine v_topR (y := 10) rfl ?_
      refine v_iload_n (pc := 31) (i := 1) F dX10_show_31 rfl rfl ?_
      refine v_iload_n (pc := 32) (i := 2) F dX10_show_32 rfl rfl ?_
      refine v_iconst (pc := 33) (v := (-1)) F dX10_show_33 (by decide) ?_
      refine v_icmp_ne (pc := 34) (tgt := 41) F dX10_show_34 (by decide) (fun h34_5 => ?_) (fun h34_5 => ?_)
      · skip
        exact absurd rfl h34_5
      · skip
        refine v_iconst (pc := 37) (v := (-1)) F dX10_show_37 (by decide) ?_
        refine v_goto (pc := 38) (tgt := 45) F dX10_show_38 (by decide) ?_
        refine v_iastN (pc := 45) (k0 := k_s) F dX10_show_45 (lm10_17 lm0) (rfl) (by omega) (by decide) ?_
        refine v_iconst (pc := 46) (v := nI 1) F dX10_show_46 (by decide) ?_
        refine v_ireturn (pc := 47) F dX10_show_47 (rfl) ?_
        simp only [s_show, rj, hnn, h4_2, ek_s, h34_5, ↓reduceIte]
        try simp only [hl1, ↓reduceIte]
        refine ⟨?_, ?_⟩ <;> first | exact trivial | exact rfl | exact Fm.rf
    · skip
      refine v_aload_n (pc := 12) (i := 0) F dX10_show_12 rfl rfl ?_
      refine v_iload_n (pc := 13) (i := 2) F dX10_show_13 rfl rfl ?_
      refine v_callVI (pc := 14) (As := [_]) (rest := []) (c := 10) F mX10_isLooker kX10_110 im_X10_isLooker se_X10_isLooker dX10_show_14 rfl rfl (by decide) (c_X10_isLooker _ n _ (by first | exact hn | assumption) hn8) (by decide) rfl rfl (Nat.le_of_ble_eq_true rfl) lm0 (fun x6 μ6 hp6 => ?_)
      rw [hp6.1, hp6.2]
      refine v_if_ne (pc := 17) (tgt := 27) F dX10_show_17 (by decide) (fun h17_7 => ?_) (fun h17_7 => ?_)
      · rw [b2i_0] at h17_7
        rw [Classical.not_not] at h17_7
        obtain ⟨k_l, hk_l, he_l⟩ := inR_of (by omega) h17_7
        subst he_l
        have ek_l : ix (nI k_l) = k_l := nI_clamp (by omega)
        refine v_aload_n (pc := 27) (i := 0) F dX10_show_27 rfl rfl ?_
        refine v_getR (pc := 28) (o := 10) F fX10_37 dX10_show_28 rfl lm0 ?_
        refine v_topR (y := 10) rfl ?_
        refine v_iload_n (pc := 31) (i := 1) F dX10_show_31 rfl rfl ?_
        refine v_iload_n (pc := 32) (i := 2) F dX10_show_32 rfl rfl ?_
        refine v_iconst (pc := 33) (v := (-1)) F dX10_show_33 (by decide) ?_
        refine v_icmp_ne (pc := 34) (tgt := 41) F dX10_show_34 (by decide) (fun h34_8 => ?_) (fun h34_8 => ?_)
        · rw [j_nm1 (by omega)] at h34_8
          refine v_bipush (pc := 41) (v := nI 10) F dX10_show_41 (by decide) ?_
          refine v_iload_n (pc := 43) (i := 2) F dX10_show_43 rfl rfl ?_
          refine v_iadd (pc := 44) F dX10_show_44 ?_
          refine v_topE (nI_add _ _) ?_
          refine v_iastN (pc := 45) (k0 := k_s) F dX10_show_45 (lm10_17 lm0) (rfl) (by omega) (by decide) ?_
          refine v_iconst (pc := 46) (v := nI 1) F dX10_show_46 (by decide) ?_
          refine v_ireturn (pc := 47) F dX10_show_47 (rfl) ?_
          simp only [s_show, rj, hnn, h4_2, ek_s, hl1, h17_7, ek_l, h34_8, ↓reduceIte]
          try simp only [hl1, ↓reduceIte]
          refine ⟨?_, ?_⟩ <;> first | exact trivial | exact rfl | exact Fm.rf
        · rw [j_nm1 (by omega)] at h34_8
          exact h34_8.elim
      · rw [b2i_0] at h17_7
        refine v_aload_n (pc := 20) (i := 0) F dX10_show_20 rfl rfl ?_
        refine v_bipush (pc := 21) (v := (-2)) F dX10_show_21 (by decide) ?_
        refine v_callVI (pc := 23) (As := [_]) (rest := []) (c := 10) F mX10_no kX10_96 im_X10_no se_X10_no dX10_show_23 rfl rfl (by decide) (c_X10_no (-2) 2 (by decide) (by decide) _) (by decide) rfl rfl (Nat.le_of_ble_eq_true rfl) lm0 (fun x9 μ9 hp9 => ?_)
        rw [hp9.1, hp9.2]
        refine v_ireturn (pc := 26) F dX10_show_26 (rfl) ?_
        simp only [s_show, rj, hnn, h4_2, ek_s, hl1, h17_7, ↓reduceIte]
        try simp only [hl1, ↓reduceIte]
        refine ⟨?_, ?_⟩ <;> first | exact trivial | exact rfl | exact Fm.rf

set_option maxRecDepth 100000 in
theorem c_X10_place (p so : Int32) (μ : j_M) (hM : MI μ) : Ct yX10_place cX10_place 4 (some .int) 2 ΛM [.ref 0, .int p, .int so] μ (pI fun r μ2 => r = (s_place p so μ).1 ∧ Fm PS (s_place p so μ).2 μ2) := by
  refine Ct.go (lo := [some (.ref 0), some (.int p), some (.int so), none]) (by decide) (Nat.le_of_ble_eq_true rfl) rfl rfl (fun X F => ?_)
  have F : Fx X cX10_place RX10 2 (some .int) ΛM := F
  obtain ⟨n, hW, hsh, htp, him⟩ := id hM
  have hn := hW.1
  have hn8 := hW.2.1
  have hnn := nn_eq hn hn8
  have ho := hW.own
  have hrw : RW μ.1 n μ := RW.self hn
  refine v_iload_n (pc := 0) (i := 1) F dX10_place_0 rfl rfl ?_
  refine v_callSI (pc := 1) (As := [_]) (rest := []) F mX10_isPlace kX10_121 sm_X10_isPlace dX10_place_1 (c_X10_isPlace _ _) (by decide) rfl rfl (Nat.le_of_ble_eq_true rfl) (fun x1 μ1 hp1 => ?_)
  rw [hp1.1, hp1.2]
  refine v_if_eq (pc := 4) (tgt := 17) F dX10_place_4 (by decide) (fun h4_2 => ?_) (fun h4_2 => ?_)
  · rw [b2i_0] at h4_2
    refine v_aload_n (pc := 17) (i := 0) F dX10_place_17 rfl rfl ?_
    refine v_bipush (pc := 18) (v := (-2)) F dX10_place_18 (by decide) ?_
    refine v_callVI (pc := 20) (As := [_]) (rest := []) (c := 10) F mX10_no kX10_96 im_X10_no se_X10_no dX10_place_20 rfl rfl (by decide) (c_X10_no (-2) 2 (by decide) (by decide) _) (by decide) rfl rfl (Nat.le_of_ble_eq_true rfl) lm0 (fun x3 μ3 hp3 => ?_)
    rw [hp3.1, hp3.2]
    refine v_ireturn (pc := 23) F dX10_place_23 (rfl) ?_
    simp only [s_place, rj, hnn, h4_2, ↓reduceIte]
    refine ⟨?_, ?_⟩ <;> first | exact trivial | exact rfl | exact Fm.rf
  · rw [b2i_0] at h4_2
    rw [Classical.not_not] at h4_2
    obtain ⟨k_p, hk_p, he_p⟩ := inR_of (by decide) h4_2
    subst he_p
    have ek_p : ix (nI k_p) = k_p := nI_clamp (by omega)
    refine v_iload_n (pc := 7) (i := 2) F dX10_place_7 rfl rfl ?_
    refine v_iconst (pc := 8) (v := (-1)) F dX10_place_8 (by decide) ?_
    refine v_bipush (pc := 9) (v := nI 7) F dX10_place_9 (by decide) ?_
    refine v_callSI (pc := 11) (As := [_, _, _]) (rest := []) F mX10_within kX10_85 sm_X10_within dX10_place_11 (c_X10_withinM _ _) (by decide) rfl rfl (Nat.le_of_ble_eq_true rfl) (fun x4 μ4 hp4 => ?_)
    rw [hp4.1, hp4.2]
    refine v_if_ne (pc := 14) (tgt := 24) F dX10_place_14 (by decide) (fun h14_5 => ?_) (fun h14_5 => ?_)
    · rw [b2i_0] at h14_5
      rw [Classical.not_not] at h14_5
      refine v_aload_n (pc := 24) (i := 0) F dX10_place_24 rfl rfl ?_
      refine v_getR (pc := 25) (o := 1) F fX10_9 dX10_place_25 rfl lm0 ?_
      refine v_topR (y := 1) rfl ?_
      refine v_iload_n (pc := 28) (i := 1) F dX10_place_28 rfl rfl ?_
      refine v_ialdN (pc := 29) (k0 := k_p) F dX10_place_29 (lm10_0 lm0) (rfl) (by omega) (by decide) ?_
      refine v_istore_n (pc := 30) (lo' := [some (.ref _), some (.int _), some (.int _), some (.int _)]) F dX10_place_30 rfl rfl (Nat.le_of_ble_eq_true rfl) rfl ?_
      refine v_aload_n (pc := 31) (i := 0) F dX10_place_31 rfl rfl ?_
      refine v_getR (pc := 32) (o := 1) F fX10_9 dX10_place_32 rfl lm0 ?_
      refine v_topR (y := 1) rfl ?_
      refine v_iload_n (pc := 35) (i := 1) F dX10_place_35 rfl rfl ?_
      refine v_iload_n (pc := 36) (i := 2) F dX10_place_36 rfl rfl ?_
      refine v_iastN (pc := 37) (k0 := k_p) F dX10_place_37 (lm10_0 lm0) (rfl) (by omega) (by decide) ?_
      refine v_iload_n (pc := 38) (i := 3) F dX10_place_38 rfl rfl ?_
      refine v_ireturn (pc := 39) F dX10_place_39 (rfl) ?_
      simp only [s_place, rj, hnn, h4_2, ek_p, h14_5, ↓reduceIte]
      refine ⟨?_, ?_⟩ <;> first | exact trivial | exact rfl | exact Fm.rf
    · rw [b2i_0] at h14_5
      refine v_aload_n (pc := 17) (i := 0) F dX10_place_17 rfl rfl ?_
      refine v_bipush (pc := 18) (v := (-2)) F dX10_place_18 (by decide) ?_
      refine v_callVI (pc := 20) (As := [_]) (rest := []) (c := 10) F mX10_no kX10_96 im_X10_no se_X10_no dX10_place_20 rfl rfl (by decide) (c_X10_no (-2) 2 (by decide) (by decide) _) (by decide) rfl rfl (Nat.le_of_ble_eq_true rfl) lm0 (fun x6 μ6 hp6 => ?_)
      rw [hp6.1, hp6.2]
      refine v_ireturn (pc := 23) F dX10_place_23 (rfl) ?_
      simp only [s_place, rj, hnn, h4_2, ek_p, h14_5, ↓reduceIte]
      refine ⟨?_, ?_⟩ <;> first | exact trivial | exact rfl | exact Fm.rf

set_option maxRecDepth 100000 in
theorem c_X10_newLooker (k a g : Int32) (n : Nat) (μ : j_M) (hn : μ.1 0 1 = nI n) (hn8 : n < 8) : Ct yX10_newLooker cX10_newLooker 5 (some .int) 0 ΛM [.ref 0, .int k, .int a, .int g] μ (pI fun r μ2 => r = nI n ∧ μ2 = m_nl μ n k a g) := by
  refine Ct.go (lo := [some (.ref 0), some (.int k), some (.int a), some (.int g), none]) (by decide) (Nat.le_of_ble_eq_true rfl) rfl rfl (fun X F => ?_)
  have F : Fx X cX10_newLooker RX10 0 (some .int) ΛM := F
  refine v_aload_n (pc := 0) (i := 0) F dX10_newLooker_0 rfl rfl ?_
  refine v_getR (pc := 1) (o := 2) F fX10_13 dX10_newLooker_1 rfl lm0 ?_
  refine v_topR (y := 2) rfl ?_
  refine v_aload_n (pc := 4) (i := 0) F dX10_newLooker_4 rfl rfl ?_
  refine v_getI (pc := 5) F fX10_89 dX10_newLooker_5 rfl lm0 ?_
  refine v_topE (hn) ?_
  refine v_iload_n (pc := 8) (i := 1) F dX10_newLooker_8 rfl rfl ?_
  refine v_iastN (pc := 9) (k0 := n) F dX10_newLooker_9 (lm10_2 lm0) (rfl) (by omega) (by decide) ?_
  refine v_aload_n (pc := 10) (i := 0) F dX10_newLooker_10 rfl rfl ?_
  refine v_getR (pc := 11) (o := 3) F fX10_16 dX10_newLooker_11 rfl lm0 ?_
  refine v_topR (y := 3) rfl ?_
  refine v_aload_n (pc := 14) (i := 0) F dX10_newLooker_14 rfl rfl ?_
  refine v_getI (pc := 15) F fX10_89 dX10_newLooker_15 rfl lm0 ?_
  refine v_topE (hn) ?_
  refine v_iload_n (pc := 18) (i := 2) F dX10_newLooker_18 rfl rfl ?_
  refine v_iastN (pc := 19) (k0 := n) F dX10_newLooker_19 (lm10_3 lm0) (rfl) (by omega) (by decide) ?_
  refine v_aload_n (pc := 20) (i := 0) F dX10_newLooker_20 rfl rfl ?_
  refine v_getR (pc := 21) (o := 4) F fX10_19 dX10_newLooker_21 rfl lm0 ?_
  refine v_topR (y := 4) rfl ?_
  refine v_aload_n (pc := 24) (i := 0) F dX10_newLooker_24 rfl rfl ?_
  refine v_getI (pc := 25) F fX10_89 dX10_newLooker_25 rfl lm0 ?_
  refine v_topE (hn) ?_
  refine v_iload_n (pc := 28) (i := 3) F dX10_newLooker_28 rfl rfl ?_
  refine v_iastN (pc := 29) (k0 := n) F dX10_newLooker_29 (lm10_4 lm0) (rfl) (by omega) (by decide) ?_
  refine v_aload_n (pc := 30) (i := 0) F dX10_newLooker_30 rfl rfl ?_
  refine v_getR (pc := 31) (o := 5) F fX10_22 dX10_newLooker_31 rfl lm0 ?_
  refine v_topR (y := 5) rfl ?_
  refine v_aload_n (pc := 34) (i := 0) F dX10_newLooker_34 rfl rfl ?_
  refine v_getI (pc := 35) F fX10_89 dX10_newLooker_35 rfl lm0 ?_
  refine v_topE (hn) ?_
  refine v_iconst (pc := 38) (v := nI 0) F dX10_newLooker_38 (by decide) ?_
  refine v_iastN (pc := 39) (k0 := n) F dX10_newLooker_39 (lm10_5 lm0) (rfl) (by omega) (by decide) ?_
  refine v_aload_n (pc := 40) (i := 0) F dX10_newLooker_40 rfl rfl ?_
  refine v_getR (pc := 41) (o := 6) F fX10_25 dX10_newLooker_41 rfl lm0 ?_
  refine v_topR (y := 6) rfl ?_
  refine v_aload_n (pc := 44) (i := 0) F dX10_newLooker_44 rfl rfl ?_
  refine v_getI (pc := 45) F fX10_89 dX10_newLooker_45 rfl lm0 ?_
  refine v_topE (hn) ?_
  refine v_bipush (pc := 48) (v := nI 6) F dX10_newLooker_48 (by decide) ?_
  refine v_iastN (pc := 50) (k0 := n) F dX10_newLooker_50 (lm10_6 lm0) (rfl) (by omega) (by decide) ?_
  refine v_aload_n (pc := 51) (i := 0) F dX10_newLooker_51 rfl rfl ?_
  refine v_getR (pc := 52) (o := 7) F fX10_28 dX10_newLooker_52 rfl lm0 ?_
  refine v_topR (y := 7) rfl ?_
  refine v_aload_n (pc := 55) (i := 0) F dX10_newLooker_55 rfl rfl ?_
  refine v_getI (pc := 56) F fX10_89 dX10_newLooker_56 rfl lm0 ?_
  refine v_topE (hn) ?_
  refine v_iconst (pc := 59) (v := (-1)) F dX10_newLooker_59 (by decide) ?_
  refine v_iastN (pc := 60) (k0 := n) F dX10_newLooker_60 (lm10_7 lm0) (rfl) (by omega) (by decide) ?_
  refine v_iconst (pc := 61) (v := nI 0) F dX10_newLooker_61 (by decide) ?_
  refine v_istore (pc := 62) (lo' := [some (.ref _), some (.int _), some (.int _), some (.int _), some (.int _)]) F dX10_newLooker_62 rfl (Nat.le_of_ble_eq_true rfl) rfl ?_
  refine v_mem (zh_0 _ n) ?_
  refine j_up 8 (fun i => V X _ 64 [some (.ref 0), some (.int k), some (.int a), some (.int g), some (.int (nI i))] [] (zh (j_pI (j_pI (j_pI (j_pI (j_pI (j_pI μ 2 n k) 3 n a) 4 n g) 5 n (nI 0)) 6 n (nI 6)) 7 n ((-1))) n i)) (fun i hi ih => ?_) 0 (Nat.zero_le _)
  refine v_iload (pc := 64) (i := 4) F dX10_newLooker_64 rfl ?_
  refine v_bipush (pc := 66) (v := nI 8) F dX10_newLooker_66 (by decide) ?_
  refine v_icmp_ge (pc := 68) (tgt := 93) F dX10_newLooker_68 (by decide) (fun h68_1 => ?_) (fun h68_1 => ?_)
  · rw [nI_leI (by omega) (by omega)] at h68_1
    refine v_aload_n (pc := 93) (i := 0) F dX10_newLooker_93 rfl rfl ?_
    refine v_dup (pc := 94) F dX10_newLooker_94 rfl ?_
    refine v_getI (pc := 95) F fX10_89 dX10_newLooker_95 rfl lm0 ?_
    refine v_topE ((zh_o (by decide)).trans hn) ?_
    refine v_dup_x1 (pc := 98) F dX10_newLooker_98 rfl rfl ?_
    refine v_iconst (pc := 99) (v := nI 1) F dX10_newLooker_99 (by decide) ?_
    refine v_iadd (pc := 100) F dX10_newLooker_100 ?_
    refine v_topE (nI_add _ _) ?_
    refine v_put (pc := 101) F fX10_89 dX10_newLooker_101 rfl rfl rfl lm0 ?_
    refine v_ireturn (pc := 104) F dX10_newLooker_104 (rfl) ?_
    have e : i = 8 := by omega
    subst e
    exact ⟨rfl, rfl⟩
  · rw [nI_leI (by omega) (by omega)] at h68_1
    refine v_aload_n (pc := 71) (i := 0) F dX10_newLooker_71 rfl rfl ?_
    refine v_getR (pc := 72) (o := 8) F fX10_31 dX10_newLooker_72 rfl lm0 ?_
    refine v_topR (y := 8) rfl ?_
    refine v_bipush (pc := 75) (v := nI 8) F dX10_newLooker_75 (by decide) ?_
    refine v_aload_n (pc := 77) (i := 0) F dX10_newLooker_77 rfl rfl ?_
    refine v_getI (pc := 78) F fX10_89 dX10_newLooker_78 rfl lm0 ?_
    refine v_topE ((zh_o (by decide)).trans hn) ?_
    refine v_imul (pc := 81) F dX10_newLooker_81 ?_
    refine v_topE (pk_mul _ _) ?_
    refine v_iload (pc := 82) (i := 4) F dX10_newLooker_82 rfl ?_
    refine v_iadd (pc := 84) F dX10_newLooker_84 ?_
    refine v_topE (nI_add _ _) ?_
    refine v_iconst (pc := 85) (v := nI 0) F dX10_newLooker_85 (by decide) ?_
    refine v_iastN (pc := 86) (k0 := 8 * n + i) F dX10_newLooker_86 (lm10_8 lm0) (rfl) (by omega) (by decide) ?_
    refine v_iinc (pc := 87) (i := 4) (v := nI (i + 1)) (lo' := [some (.ref _), some (.int _), some (.int _), some (.int _), some (.int _)]) F dX10_newLooker_87 rfl (j_inc _) rfl rfl ?_
    refine v_goto (pc := 90) (tgt := 64) F dX10_newLooker_90 (by decide) ?_
    refine v_mem (zh_s _ _ _) (ih (by omega))

set_option maxRecDepth 100000 in
theorem c_X10_looker (k a g : Int32) (μ : j_M) (hM : MI μ) : Ct yX10_looker cX10_looker 4 (some .int) 2 ΛM [.ref 0, .int k, .int a, .int g] μ (pI fun r μ2 => r = (s_looker k a g μ).1 ∧ Fm PS (s_looker k a g μ).2 μ2) := by
  refine Ct.go (lo := [some (.ref 0), some (.int k), some (.int a), some (.int g)]) (by decide) (Nat.le_of_ble_eq_true rfl) rfl rfl (fun X F => ?_)
  have F : Fx X cX10_looker RX10 2 (some .int) ΛM := F
  obtain ⟨n, hW, hsh, htp, him⟩ := id hM
  have hn := hW.1
  have hn8 := hW.2.1
  have hnn := nn_eq hn hn8
  have ho := hW.own
  have hrw : RW μ.1 n μ := RW.self hn
  refine v_iload_n (pc := 0) (i := 1) F dX10_looker_0 rfl rfl ?_
  refine v_iconst (pc := 1) (v := nI 0) F dX10_looker_1 (by decide) ?_
  refine v_iconst (pc := 2) (v := nI 5) F dX10_looker_2 (by decide) ?_
  refine v_callSI (pc := 3) (As := [_, _, _]) (rest := []) F mX10_within kX10_85 sm_X10_within dX10_looker_3 (c_X10_withinR _ 5 6 rfl (by decide) _) (by decide) rfl rfl (Nat.le_of_ble_eq_true rfl) (fun x1 μ1 hp1 => ?_)
  rw [hp1.1, hp1.2]
  refine v_if_eq (pc := 6) (tgt := 26) F dX10_looker_6 (by decide) (fun h6_2 => ?_) (fun h6_2 => ?_)
  · rw [b2i_0] at h6_2
    refine v_aload_n (pc := 26) (i := 0) F dX10_looker_26 rfl rfl ?_
    refine v_bipush (pc := 27) (v := (-2)) F dX10_looker_27 (by decide) ?_
    refine v_callVI (pc := 29) (As := [_]) (rest := []) (c := 10) F mX10_no kX10_96 im_X10_no se_X10_no dX10_looker_29 rfl rfl (by decide) (c_X10_no (-2) 2 (by decide) (by decide) _) (by decide) rfl rfl (Nat.le_of_ble_eq_true rfl) lm0 (fun x3 μ3 hp3 => ?_)
    rw [hp3.1, hp3.2]
    refine v_ireturn (pc := 32) F dX10_looker_32 (rfl) ?_
    simp only [s_looker, rj, hnn, h6_2, ↓reduceIte]
    refine ⟨?_, ?_⟩ <;> first | exact trivial | exact rfl | exact Fm.rf
  · rw [b2i_0] at h6_2
    rw [Classical.not_not] at h6_2
    obtain ⟨k_k, hk_k, he_k⟩ := inR_of (by decide) h6_2
    subst he_k
    have ek_k : ix (nI k_k) = k_k := nI_clamp (by omega)
    refine v_iload_n (pc := 9) (i := 2) F dX10_looker_9 rfl rfl ?_
    refine v_callSI (pc := 10) (As := [_]) (rest := []) F mX10_isSort kX10_124 sm_X10_isSort dX10_looker_10 (c_X10_isSort _ _) (by decide) rfl rfl (Nat.le_of_ble_eq_true rfl) (fun x4 μ4 hp4 => ?_)
    rw [hp4.1, hp4.2]
    refine v_if_eq (pc := 13) (tgt := 26) F dX10_looker_13 (by decide) (fun h13_5 => ?_) (fun h13_5 => ?_)
    · rw [b2i_0] at h13_5
      refine v_aload_n (pc := 26) (i := 0) F dX10_looker_26 rfl rfl ?_
      refine v_bipush (pc := 27) (v := (-2)) F dX10_looker_27 (by decide) ?_
      refine v_callVI (pc := 29) (As := [_]) (rest := []) (c := 10) F mX10_no kX10_96 im_X10_no se_X10_no dX10_looker_29 rfl rfl (by decide) (c_X10_no (-2) 2 (by decide) (by decide) _) (by decide) rfl rfl (Nat.le_of_ble_eq_true rfl) lm0 (fun x6 μ6 hp6 => ?_)
      rw [hp6.1, hp6.2]
      refine v_ireturn (pc := 32) F dX10_looker_32 (rfl) ?_
      simp only [s_looker, rj, hnn, h6_2, ek_k, h13_5, ↓reduceIte]
      refine ⟨?_, ?_⟩ <;> first | exact trivial | exact rfl | exact Fm.rf
    · rw [b2i_0] at h13_5
      rw [Classical.not_not] at h13_5
      obtain ⟨k_a, hk_a, he_a⟩ := inR_of (by decide) h13_5
      subst he_a
      have ek_a : ix (nI k_a) = k_a := nI_clamp (by omega)
      refine v_iload_n (pc := 16) (i := 3) F dX10_looker_16 rfl rfl ?_
      refine v_iconst (pc := 17) (v := nI 0) F dX10_looker_17 (by decide) ?_
      refine v_bipush (pc := 18) (v := nI 99) F dX10_looker_18 (by decide) ?_
      refine v_callSI (pc := 20) (As := [_, _, _]) (rest := []) F mX10_within kX10_85 sm_X10_within dX10_looker_20 (c_X10_withinR _ 99 100 rfl (by decide) _) (by decide) rfl rfl (Nat.le_of_ble_eq_true rfl) (fun x7 μ7 hp7 => ?_)
      rw [hp7.1, hp7.2]
      refine v_if_ne (pc := 23) (tgt := 33) F dX10_looker_23 (by decide) (fun h23_8 => ?_) (fun h23_8 => ?_)
      · rw [b2i_0] at h23_8
        rw [Classical.not_not] at h23_8
        obtain ⟨k_g, hk_g, he_g⟩ := inR_of (by decide) h23_8
        subst he_g
        have ek_g : ix (nI k_g) = k_g := nI_clamp (by omega)
        refine v_aload_n (pc := 33) (i := 0) F dX10_looker_33 rfl rfl ?_
        refine v_getI (pc := 34) F fX10_89 dX10_looker_34 rfl lm0 ?_
        refine v_topE (hn) ?_
        refine v_bipush (pc := 37) (v := nI 8) F dX10_looker_37 (by decide) ?_
        refine v_icmp_ne (pc := 39) (tgt := 51) F dX10_looker_39 (by decide) (fun h39_9 => ?_) (fun h39_9 => ?_)
        · rw [nI_eq (by omega) (by omega)] at h39_9
          refine v_aload_n (pc := 51) (i := 0) F dX10_looker_51 rfl rfl ?_
          refine v_iload_n (pc := 52) (i := 1) F dX10_looker_52 rfl rfl ?_
          refine v_iload_n (pc := 53) (i := 2) F dX10_looker_53 rfl rfl ?_
          refine v_iload_n (pc := 54) (i := 3) F dX10_looker_54 rfl rfl ?_
          refine v_callVI (pc := 55) (As := [_, _, _]) (rest := []) (c := 10) F mX10_newLooker kX10_127 im_X10_newLooker se_X10_newLooker dX10_looker_55 rfl rfl (by decide) (c_X10_newLooker _ _ _ n _ hn (by omega)) (by decide) rfl rfl (Nat.le_of_ble_eq_true rfl) lm0 (fun x10 μ10 hp10 => ?_)
          rw [hp10.1, hp10.2]
          refine v_ireturn (pc := 58) F dX10_looker_58 (rfl) ?_
          simp only [s_looker, rj, hnn, h6_2, ek_k, h13_5, ek_a, h23_8, ek_g, h39_9, ↓reduceIte]
          refine ⟨?_, ?_⟩ <;> first | exact trivial | exact rfl | exact Fm.rf
        · rw [nI_eq (by omega) (by omega)] at h39_9
          refine v_aload_n (pc := 42) (i := 0) F dX10_looker_42 rfl rfl ?_
          refine v_bipush (pc := 43) (v := (-6)) F dX10_looker_43 (by decide) ?_
          refine v_callVI (pc := 45) (As := [_]) (rest := []) (c := 10) F mX10_no kX10_96 im_X10_no se_X10_no dX10_looker_45 rfl rfl (by decide) (c_X10_no (-6) 6 (by decide) (by decide) _) (by decide) rfl rfl (Nat.le_of_ble_eq_true rfl) lm0 (fun x11 μ11 hp11 => ?_)
          rw [hp11.1, hp11.2]
          refine v_goto (pc := 48) (tgt := 58) F dX10_looker_48 (by decide) ?_
          refine v_ireturn (pc := 58) F dX10_looker_58 (rfl) ?_
          simp only [s_looker, rj, hnn, h6_2, ek_k, h13_5, ek_a, h23_8, ek_g, h39_9, ↓reduceIte]
          refine ⟨?_, ?_⟩ <;> first | exact trivial | exact rfl | exact Fm.rf
      · rw [b2i_0] at h23_8
        refine v_aload_n (pc := 26) (i := 0) F dX10_looker_26 rfl rfl ?_
        refine v_bipush (pc := 27) (v := (-2)) F dX10_looker_27 (by decide) ?_
        refine v_callVI (pc := 29) (As := [_]) (rest := []) (c := 10) F mX10_no kX10_96 im_X10_no se_X10_no dX10_looker_29 rfl rfl (by decide) (c_X10_no (-2) 2 (by decide) (by decide) _) (by decide) rfl rfl (Nat.le_of_ble_eq_true rfl) lm0 (fun x12 μ12 hp12 => ?_)
        rw [hp12.1, hp12.2]
        refine v_ireturn (pc := 32) F dX10_looker_32 (rfl) ?_
        simp only [s_looker, rj, hnn, h6_2, ek_k, h13_5, ek_a, h23_8, ↓reduceIte]
        refine ⟨?_, ?_⟩ <;> first | exact trivial | exact rfl | exact Fm.rf

set_option maxRecDepth 100000 in
theorem c_X10_likes (l so is : Int32) (μ : j_M) (hM : MI μ) : Ct yX10_likes cX10_likes 5 (some .int) 2 ΛM [.ref 0, .int l, .int so, .int is] μ (pI fun r μ2 => r = (s_likes l so is μ).1 ∧ Fm PS (s_likes l so is μ).2 μ2) := by
  refine Ct.go (lo := [some (.ref 0), some (.int l), some (.int so), some (.int is), none]) (by decide) (Nat.le_of_ble_eq_true rfl) rfl rfl (fun X F => ?_)
  have F : Fx X cX10_likes RX10 2 (some .int) ΛM := F
  obtain ⟨n, hW, hsh, htp, him⟩ := id hM
  have hn := hW.1
  have hn8 := hW.2.1
  have hnn := nn_eq hn hn8
  have ho := hW.own
  have hrw : RW μ.1 n μ := RW.self hn
  refine v_aload_n (pc := 0) (i := 0) F dX10_likes_0 rfl rfl ?_
  refine v_iload_n (pc := 1) (i := 1) F dX10_likes_1 rfl rfl ?_
  refine v_callVI (pc := 2) (As := [_]) (rest := []) (c := 10) F mX10_isLooker kX10_110 im_X10_isLooker se_X10_isLooker dX10_likes_2 rfl rfl (by decide) (c_X10_isLooker _ n _ (by first | exact hn | assumption) hn8) (by decide) rfl rfl (Nat.le_of_ble_eq_true rfl) lm0 (fun x1 μ1 hp1 => ?_)
  rw [hp1.1, hp1.2]
  refine v_if_eq (pc := 5) (tgt := 15) F dX10_likes_5 (by decide) (fun h5_2 => ?_) (fun h5_2 => ?_)
  · rw [b2i_0] at h5_2
    refine v_aload_n (pc := 15) (i := 0) F dX10_likes_15 rfl rfl ?_
    refine v_bipush (pc := 16) (v := (-2)) F dX10_likes_16 (by decide) ?_
    refine v_callVI (pc := 18) (As := [_]) (rest := []) (c := 10) F mX10_no kX10_96 im_X10_no se_X10_no dX10_likes_18 rfl rfl (by decide) (c_X10_no (-2) 2 (by decide) (by decide) _) (by decide) rfl rfl (Nat.le_of_ble_eq_true rfl) lm0 (fun x3 μ3 hp3 => ?_)
    rw [hp3.1, hp3.2]
    refine v_ireturn (pc := 21) F dX10_likes_21 (rfl) ?_
    simp only [s_likes, rj, hnn, h5_2, ↓reduceIte]
    refine ⟨?_, ?_⟩ <;> first | exact trivial | exact rfl | exact Fm.rf
  · rw [b2i_0] at h5_2
    rw [Classical.not_not] at h5_2
    obtain ⟨k_l, hk_l, he_l⟩ := inR_of (by omega) h5_2
    subst he_l
    have ek_l : ix (nI k_l) = k_l := nI_clamp (by omega)
    refine v_iload_n (pc := 8) (i := 2) F dX10_likes_8 rfl rfl ?_
    refine v_callSI (pc := 9) (As := [_]) (rest := []) F mX10_isSort kX10_124 sm_X10_isSort dX10_likes_9 (c_X10_isSort _ _) (by decide) rfl rfl (Nat.le_of_ble_eq_true rfl) (fun x4 μ4 hp4 => ?_)
    rw [hp4.1, hp4.2]
    refine v_if_ne (pc := 12) (tgt := 22) F dX10_likes_12 (by decide) (fun h12_5 => ?_) (fun h12_5 => ?_)
    · rw [b2i_0] at h12_5
      rw [Classical.not_not] at h12_5
      obtain ⟨k_so, hk_so, he_so⟩ := inR_of (by decide) h12_5
      subst he_so
      have ek_so : ix (nI k_so) = k_so := nI_clamp (by omega)
      refine v_aload_n (pc := 22) (i := 0) F dX10_likes_22 rfl rfl ?_
      refine v_getR (pc := 23) (o := 5) F fX10_22 dX10_likes_23 rfl lm0 ?_
      refine v_topR (y := 5) rfl ?_
      refine v_iload_n (pc := 26) (i := 1) F dX10_likes_26 rfl rfl ?_
      refine v_ialdN (pc := 27) (k0 := k_l) F dX10_likes_27 (lm10_5 lm0) (rfl) (by omega) (by decide) ?_
      refine v_iload_n (pc := 28) (i := 2) F dX10_likes_28 rfl rfl ?_
      refine v_ishr (pc := 29) F dX10_likes_29 ?_
      refine v_iconst (pc := 30) (v := nI 1) F dX10_likes_30 (by decide) ?_
      refine v_iand (pc := 31) F dX10_likes_31 ?_
      refine v_istore (pc := 32) (lo' := [some (.ref _), some (.int _), some (.int _), some (.int _), some (.int _)]) F dX10_likes_32 rfl (Nat.le_of_ble_eq_true rfl) rfl ?_
      refine v_aload_n (pc := 34) (i := 0) F dX10_likes_34 rfl rfl ?_
      refine v_getR (pc := 35) (o := 5) F fX10_22 dX10_likes_35 rfl lm0 ?_
      refine v_topR (y := 5) rfl ?_
      refine v_iload_n (pc := 38) (i := 1) F dX10_likes_38 rfl rfl ?_
      refine v_iload_n (pc := 39) (i := 3) F dX10_likes_39 rfl rfl ?_
      refine v_if_eq (pc := 40) (tgt := 56) F dX10_likes_40 (by decide) (fun h40_6 => ?_) (fun h40_6 => ?_)
      · skip
        refine v_aload_n (pc := 56) (i := 0) F dX10_likes_56 rfl rfl ?_
        refine v_getR (pc := 57) (o := 5) F fX10_22 dX10_likes_57 rfl lm0 ?_
        refine v_topR (y := 5) rfl ?_
        refine v_iload_n (pc := 60) (i := 1) F dX10_likes_60 rfl rfl ?_
        refine v_ialdN (pc := 61) (k0 := k_l) F dX10_likes_61 (lm10_5 lm0) (rfl) (by omega) (by decide) ?_
        refine v_iconst (pc := 62) (v := nI 1) F dX10_likes_62 (by decide) ?_
        refine v_iload_n (pc := 63) (i := 2) F dX10_likes_63 rfl rfl ?_
        refine v_ishl (pc := 64) F dX10_likes_64 ?_
        refine v_iconst (pc := 65) (v := (-1)) F dX10_likes_65 (by decide) ?_
        refine v_ixor (pc := 66) F dX10_likes_66 ?_
        refine v_iand (pc := 67) F dX10_likes_67 ?_
        refine v_iastN (pc := 68) (k0 := k_l) F dX10_likes_68 (lm10_5 lm0) (rfl) (by omega) (by decide) ?_
        refine v_iload (pc := 69) (i := 4) F dX10_likes_69 rfl ?_
        refine v_ireturn (pc := 71) F dX10_likes_71 (rfl) ?_
        simp only [s_likes, rj, hnn, h5_2, ek_l, h12_5, ek_so, h40_6, ↓reduceIte]
        refine ⟨?_, ?_⟩ <;> first | exact trivial | exact rfl | exact Fm.rf
      · skip
        refine v_aload_n (pc := 43) (i := 0) F dX10_likes_43 rfl rfl ?_
        refine v_getR (pc := 44) (o := 5) F fX10_22 dX10_likes_44 rfl lm0 ?_
        refine v_topR (y := 5) rfl ?_
        refine v_iload_n (pc := 47) (i := 1) F dX10_likes_47 rfl rfl ?_
        refine v_ialdN (pc := 48) (k0 := k_l) F dX10_likes_48 (lm10_5 lm0) (rfl) (by omega) (by decide) ?_
        refine v_iconst (pc := 49) (v := nI 1) F dX10_likes_49 (by decide) ?_
        refine v_iload_n (pc := 50) (i := 2) F dX10_likes_50 rfl rfl ?_
        refine v_ishl (pc := 51) F dX10_likes_51 ?_
        refine v_ior (pc := 52) F dX10_likes_52 ?_
        refine v_goto (pc := 53) (tgt := 68) F dX10_likes_53 (by decide) ?_
        refine v_iastN (pc := 68) (k0 := k_l) F dX10_likes_68 (lm10_5 lm0) (rfl) (by omega) (by decide) ?_
        refine v_iload (pc := 69) (i := 4) F dX10_likes_69 rfl ?_
        refine v_ireturn (pc := 71) F dX10_likes_71 (rfl) ?_
        simp only [s_likes, rj, hnn, h5_2, ek_l, h12_5, ek_so, h40_6, ↓reduceIte]
        refine ⟨?_, ?_⟩ <;> first | exact trivial | exact rfl | exact Fm.rf
    · rw [b2i_0] at h12_5
      refine v_aload_n (pc := 15) (i := 0) F dX10_likes_15 rfl rfl ?_
      refine v_bipush (pc := 16) (v := (-2)) F dX10_likes_16 (by decide) ?_
      refine v_callVI (pc := 18) (As := [_]) (rest := []) (c := 10) F mX10_no kX10_96 im_X10_no se_X10_no dX10_likes_18 rfl rfl (by decide) (c_X10_no (-2) 2 (by decide) (by decide) _) (by decide) rfl rfl (Nat.le_of_ble_eq_true rfl) lm0 (fun x7 μ7 hp7 => ?_)
      rw [hp7.1, hp7.2]
      refine v_ireturn (pc := 21) F dX10_likes_21 (rfl) ?_
      simp only [s_likes, rj, hnn, h5_2, ek_l, h12_5, ↓reduceIte]
      refine ⟨?_, ?_⟩ <;> first | exact trivial | exact rfl | exact Fm.rf

set_option maxRecDepth 100000 in
theorem c_X10_tell (l what v : Int32) (μ : j_M) (hM : MI μ) : Ct yX10_tell cX10_tell 5 (some .int) 2 ΛM [.ref 0, .int l, .int what, .int v] μ (pI fun r μ2 => r = (s_tell l what v μ).1 ∧ Fm PS (s_tell l what v μ).2 μ2) := by
  refine Ct.go (lo := [some (.ref 0), some (.int l), some (.int what), some (.int v), none]) (by decide) (Nat.le_of_ble_eq_true rfl) rfl rfl (fun X F => ?_)
  have F : Fx X cX10_tell RX10 2 (some .int) ΛM := F
  obtain ⟨n, hW, hsh, htp, him⟩ := id hM
  have hn := hW.1
  have hn8 := hW.2.1
  have hnn := nn_eq hn hn8
  have ho := hW.own
  have hrw : RW μ.1 n μ := RW.self hn
  refine v_aload_n (pc := 0) (i := 0) F dX10_tell_0 rfl rfl ?_
  refine v_iload_n (pc := 1) (i := 1) F dX10_tell_1 rfl rfl ?_
  refine v_callVI (pc := 2) (As := [_]) (rest := []) (c := 10) F mX10_isLooker kX10_110 im_X10_isLooker se_X10_isLooker dX10_tell_2 rfl rfl (by decide) (c_X10_isLooker _ n _ (by first | exact hn | assumption) hn8) (by decide) rfl rfl (Nat.le_of_ble_eq_true rfl) lm0 (fun x1 μ1 hp1 => ?_)
  rw [hp1.1, hp1.2]
  refine v_if_eq (pc := 5) (tgt := 17) F dX10_tell_5 (by decide) (fun h5_2 => ?_) (fun h5_2 => ?_)
  · rw [b2i_0] at h5_2
    refine v_aload_n (pc := 17) (i := 0) F dX10_tell_17 rfl rfl ?_
    refine v_bipush (pc := 18) (v := (-2)) F dX10_tell_18 (by decide) ?_
    refine v_callVI (pc := 20) (As := [_]) (rest := []) (c := 10) F mX10_no kX10_96 im_X10_no se_X10_no dX10_tell_20 rfl rfl (by decide) (c_X10_no (-2) 2 (by decide) (by decide) _) (by decide) rfl rfl (Nat.le_of_ble_eq_true rfl) lm0 (fun x3 μ3 hp3 => ?_)
    rw [hp3.1, hp3.2]
    refine v_ireturn (pc := 23) F dX10_tell_23 (rfl) ?_
    simp only [s_tell, rj, hnn, h5_2, ↓reduceIte]
    refine ⟨?_, ?_⟩ <;> first | exact trivial | exact rfl | exact Fm.rf
  · rw [b2i_0] at h5_2
    rw [Classical.not_not] at h5_2
    obtain ⟨k_l, hk_l, he_l⟩ := inR_of (by omega) h5_2
    subst he_l
    have ek_l : ix (nI k_l) = k_l := nI_clamp (by omega)
    refine v_iload_n (pc := 8) (i := 2) F dX10_tell_8 rfl rfl ?_
    refine v_iconst (pc := 9) (v := nI 0) F dX10_tell_9 (by decide) ?_
    refine v_iconst (pc := 10) (v := nI 2) F dX10_tell_10 (by decide) ?_
    refine v_callSI (pc := 11) (As := [_, _, _]) (rest := []) F mX10_within kX10_85 sm_X10_within dX10_tell_11 (c_X10_withinR _ 2 3 rfl (by decide) _) (by decide) rfl rfl (Nat.le_of_ble_eq_true rfl) (fun x4 μ4 hp4 => ?_)
    rw [hp4.1, hp4.2]
    refine v_if_ne (pc := 14) (tgt := 24) F dX10_tell_14 (by decide) (fun h14_5 => ?_) (fun h14_5 => ?_)
    · rw [b2i_0] at h14_5
      rw [Classical.not_not] at h14_5
      obtain ⟨k_what, hk_what, he_what⟩ := inR_of (by decide) h14_5
      subst he_what
      have ek_what : ix (nI k_what) = k_what := nI_clamp (by omega)
      obtain rfl | rfl | rfl : k_what = 0 ∨ k_what = 1 ∨ k_what = 2 := by omega
      · skip
        refine v_iload_n (pc := 24) (i := 3) F dX10_tell_24 rfl rfl ?_
        refine v_iload_n (pc := 25) (i := 2) F dX10_tell_25 rfl rfl ?_
        refine v_iconst (pc := 26) (v := nI 2) F dX10_tell_26 (by decide) ?_
        refine v_icmp_ne (pc := 27) (tgt := 34) F dX10_tell_27 (by decide) (fun h27_6 => ?_) (fun h27_6 => ?_)
        · rw [nI_eq (by omega) (by omega)] at h27_6
          refine v_iconst (pc := 34) (v := nI 0) F dX10_tell_34 (by decide) ?_
          refine v_iload_n (pc := 35) (i := 2) F dX10_tell_35 rfl rfl ?_
          refine v_if_ne (pc := 36) (tgt := 44) F dX10_tell_36 (by decide) (fun h36_7 => ?_) (fun h36_7 => ?_)
          · rw [j_eq0 (by omega)] at h36_7
            exact absurd h36_7 (by decide)
          · rw [j_eq0 (by omega)] at h36_7
            refine v_bipush (pc := 39) (v := nI 12) F dX10_tell_39 (by decide) ?_
            refine v_goto (pc := 41) (tgt := 56) F dX10_tell_41 (by decide) ?_
            refine v_callSI (pc := 56) (As := [_, _, _]) (rest := []) F mX10_within kX10_85 sm_X10_within dX10_tell_56 (c_X10_withinR _ 12 13 rfl (by decide) _) (by decide) rfl rfl (Nat.le_of_ble_eq_true rfl) (fun x8 μ8 hp8 => ?_)
            rw [hp8.1, hp8.2]
            refine v_if_ne (pc := 59) (tgt := 69) F dX10_tell_59 (by decide) (fun h59_9 => ?_) (fun h59_9 => ?_)
            · rw [b2i_0] at h59_9
              rw [Classical.not_not] at h59_9
              obtain ⟨k_v, hk_v, he_v⟩ := inR_of (by decide) h59_9
              subst he_v
              have ek_v : ix (nI k_v) = k_v := nI_clamp (by omega)
              refine v_iload_n (pc := 69) (i := 2) F dX10_tell_69 rfl rfl ?_
              refine v_if_ne (pc := 70) (tgt := 82) F dX10_tell_70 (by decide) (fun h70_10 => ?_) (fun h70_10 => ?_)
              · rw [j_eq0 (by omega)] at h70_10
                exact absurd h70_10 (by decide)
              · rw [j_eq0 (by omega)] at h70_10
                refine v_aload_n (pc := 73) (i := 0) F dX10_tell_73 rfl rfl ?_
                refine v_getR (pc := 74) (o := 6) F fX10_25 dX10_tell_74 rfl lm0 ?_
                refine v_topR (y := 6) rfl ?_
                refine v_iload_n (pc := 77) (i := 1) F dX10_tell_77 rfl rfl ?_
                refine v_ialdN (pc := 78) (k0 := k_l) F dX10_tell_78 (lm10_6 lm0) (rfl) (by omega) (by decide) ?_
                refine v_goto (pc := 79) (tgt := 102) F dX10_tell_79 (by decide) ?_
                refine v_istore (pc := 102) (lo' := [some (.ref _), some (.int _), some (.int _), some (.int _), some (.int _)]) F dX10_tell_102 rfl (Nat.le_of_ble_eq_true rfl) rfl ?_
                refine v_iload_n (pc := 104) (i := 2) F dX10_tell_104 rfl rfl ?_
                refine v_if_ne (pc := 105) (tgt := 118) F dX10_tell_105 (by decide) (fun h105_11 => ?_) (fun h105_11 => ?_)
                · rw [j_eq0 (by omega)] at h105_11
                  exact absurd h105_11 (by decide)
                · rw [j_eq0 (by omega)] at h105_11
                  refine v_aload_n (pc := 108) (i := 0) F dX10_tell_108 rfl rfl ?_
                  refine v_getR (pc := 109) (o := 6) F fX10_25 dX10_tell_109 rfl lm0 ?_
                  refine v_topR (y := 6) rfl ?_
                  refine v_iload_n (pc := 112) (i := 1) F dX10_tell_112 rfl rfl ?_
                  refine v_iload_n (pc := 113) (i := 3) F dX10_tell_113 rfl rfl ?_
                  refine v_iastN (pc := 114) (k0 := k_l) F dX10_tell_114 (lm10_6 lm0) (rfl) (by omega) (by decide) ?_
                  refine v_goto (pc := 115) (tgt := 140) F dX10_tell_115 (by decide) ?_
                  refine v_iload (pc := 140) (i := 4) F dX10_tell_140 rfl ?_
                  refine v_ireturn (pc := 142) F dX10_tell_142 (rfl) ?_
                  simp only [s_tell, rj, hnn, h5_2, ek_l, h14_5, ek_what, h27_6, h36_7, h59_9, ek_v, h70_10, h105_11, ↓reduceIte]
                  refine ⟨?_, ?_⟩ <;> first | exact trivial | exact rfl | exact Fm.rf
            · rw [b2i_0] at h59_9
              refine v_aload_n (pc := 62) (i := 0) F dX10_tell_62 rfl rfl ?_
              refine v_bipush (pc := 63) (v := (-2)) F dX10_tell_63 (by decide) ?_
              refine v_callVI (pc := 65) (As := [_]) (rest := []) (c := 10) F mX10_no kX10_96 im_X10_no se_X10_no dX10_tell_65 rfl rfl (by decide) (c_X10_no (-2) 2 (by decide) (by decide) _) (by decide) rfl rfl (Nat.le_of_ble_eq_true rfl) lm0 (fun x12 μ12 hp12 => ?_)
              rw [hp12.1, hp12.2]
              refine v_ireturn (pc := 68) F dX10_tell_68 (rfl) ?_
              simp only [s_tell, rj, hnn, h5_2, ek_l, h14_5, ek_what, h27_6, h36_7, h59_9, ↓reduceIte]
              refine ⟨?_, ?_⟩ <;> first | exact trivial | exact rfl | exact Fm.rf
        · rw [nI_eq (by omega) (by omega)] at h27_6
          exact absurd h27_6 (by decide)
      · skip
        refine v_iload_n (pc := 24) (i := 3) F dX10_tell_24 rfl rfl ?_
        refine v_iload_n (pc := 25) (i := 2) F dX10_tell_25 rfl rfl ?_
        refine v_iconst (pc := 26) (v := nI 2) F dX10_tell_26 (by decide) ?_
        refine v_icmp_ne (pc := 27) (tgt := 34) F dX10_tell_27 (by decide) (fun h27_13 => ?_) (fun h27_13 => ?_)
        · rw [nI_eq (by omega) (by omega)] at h27_13
          refine v_iconst (pc := 34) (v := nI 0) F dX10_tell_34 (by decide) ?_
          refine v_iload_n (pc := 35) (i := 2) F dX10_tell_35 rfl rfl ?_
          refine v_if_ne (pc := 36) (tgt := 44) F dX10_tell_36 (by decide) (fun h36_14 => ?_) (fun h36_14 => ?_)
          · rw [j_eq0 (by omega)] at h36_14
            refine v_iload_n (pc := 44) (i := 2) F dX10_tell_44 rfl rfl ?_
            refine v_iconst (pc := 45) (v := nI 1) F dX10_tell_45 (by decide) ?_
            refine v_icmp_ne (pc := 46) (tgt := 54) F dX10_tell_46 (by decide) (fun h46_15 => ?_) (fun h46_15 => ?_)
            · rw [nI_eq (by omega) (by omega)] at h46_15
              exact absurd h46_15 (by decide)
            · rw [nI_eq (by omega) (by omega)] at h46_15
              refine v_bipush (pc := 49) (v := nI 99) F dX10_tell_49 (by decide) ?_
              refine v_goto (pc := 51) (tgt := 56) F dX10_tell_51 (by decide) ?_
              refine v_callSI (pc := 56) (As := [_, _, _]) (rest := []) F mX10_within kX10_85 sm_X10_within dX10_tell_56 (c_X10_withinR _ 99 100 rfl (by decide) _) (by decide) rfl rfl (Nat.le_of_ble_eq_true rfl) (fun x16 μ16 hp16 => ?_)
              rw [hp16.1, hp16.2]
              refine v_if_ne (pc := 59) (tgt := 69) F dX10_tell_59 (by decide) (fun h59_17 => ?_) (fun h59_17 => ?_)
              · rw [b2i_0] at h59_17
                rw [Classical.not_not] at h59_17
                obtain ⟨k_v, hk_v, he_v⟩ := inR_of (by decide) h59_17
                subst he_v
                have ek_v : ix (nI k_v) = k_v := nI_clamp (by omega)
                refine v_iload_n (pc := 69) (i := 2) F dX10_tell_69 rfl rfl ?_
                refine v_if_ne (pc := 70) (tgt := 82) F dX10_tell_70 (by decide) (fun h70_18 => ?_) (fun h70_18 => ?_)
                · rw [j_eq0 (by omega)] at h70_18
                  refine v_iload_n (pc := 82) (i := 2) F dX10_tell_82 rfl rfl ?_
                  refine v_iconst (pc := 83) (v := nI 1) F dX10_tell_83 (by decide) ?_
                  refine v_icmp_ne (pc := 84) (tgt := 96) F dX10_tell_84 (by decide) (fun h84_19 => ?_) (fun h84_19 => ?_)
                  · rw [nI_eq (by omega) (by omega)] at h84_19
                    exact absurd h84_19 (by decide)
                  · rw [nI_eq (by omega) (by omega)] at h84_19
                    refine v_aload_n (pc := 87) (i := 0) F dX10_tell_87 rfl rfl ?_
                    refine v_getR (pc := 88) (o := 4) F fX10_19 dX10_tell_88 rfl lm0 ?_
                    refine v_topR (y := 4) rfl ?_
                    refine v_iload_n (pc := 91) (i := 1) F dX10_tell_91 rfl rfl ?_
                    refine v_ialdN (pc := 92) (k0 := k_l) F dX10_tell_92 (lm10_4 lm0) (rfl) (by omega) (by decide) ?_
                    refine v_goto (pc := 93) (tgt := 102) F dX10_tell_93 (by decide) ?_
                    refine v_istore (pc := 102) (lo' := [some (.ref _), some (.int _), some (.int _), some (.int _), some (.int _)]) F dX10_tell_102 rfl (Nat.le_of_ble_eq_true rfl) rfl ?_
                    refine v_iload_n (pc := 104) (i := 2) F dX10_tell_104 rfl rfl ?_
                    refine v_if_ne (pc := 105) (tgt := 118) F dX10_tell_105 (by decide) (fun h105_20 => ?_) (fun h105_20 => ?_)
                    · rw [j_eq0 (by omega)] at h105_20
                      refine v_iload_n (pc := 118) (i := 2) F dX10_tell_118 rfl rfl ?_
                      refine v_iconst (pc := 119) (v := nI 1) F dX10_tell_119 (by decide) ?_
                      refine v_icmp_ne (pc := 120) (tgt := 133) F dX10_tell_120 (by decide) (fun h120_21 => ?_) (fun h120_21 => ?_)
                      · rw [nI_eq (by omega) (by omega)] at h120_21
                        exact absurd h120_21 (by decide)
                      · rw [nI_eq (by omega) (by omega)] at h120_21
                        refine v_aload_n (pc := 123) (i := 0) F dX10_tell_123 rfl rfl ?_
                        refine v_getR (pc := 124) (o := 4) F fX10_19 dX10_tell_124 rfl lm0 ?_
                        refine v_topR (y := 4) rfl ?_
                        refine v_iload_n (pc := 127) (i := 1) F dX10_tell_127 rfl rfl ?_
                        refine v_iload_n (pc := 128) (i := 3) F dX10_tell_128 rfl rfl ?_
                        refine v_iastN (pc := 129) (k0 := k_l) F dX10_tell_129 (lm10_4 lm0) (rfl) (by omega) (by decide) ?_
                        refine v_goto (pc := 130) (tgt := 140) F dX10_tell_130 (by decide) ?_
                        refine v_iload (pc := 140) (i := 4) F dX10_tell_140 rfl ?_
                        refine v_ireturn (pc := 142) F dX10_tell_142 (rfl) ?_
                        simp only [s_tell, rj, hnn, h5_2, ek_l, h14_5, ek_what, h27_13, h36_14, h46_15, h59_17, ek_v, h70_18, h84_19, h105_20, h120_21, ↓reduceIte]
                        refine ⟨?_, ?_⟩ <;> first | exact trivial | exact rfl | exact Fm.rf
                    · rw [j_eq0 (by omega)] at h105_20
                      exact absurd h105_20 (by decide)
                · rw [j_eq0 (by omega)] at h70_18
                  exact absurd h70_18 (by decide)
              · rw [b2i_0] at h59_17
                refine v_aload_n (pc := 62) (i := 0) F dX10_tell_62 rfl rfl ?_
                refine v_bipush (pc := 63) (v := (-2)) F dX10_tell_63 (by decide) ?_
                refine v_callVI (pc := 65) (As := [_]) (rest := []) (c := 10) F mX10_no kX10_96 im_X10_no se_X10_no dX10_tell_65 rfl rfl (by decide) (c_X10_no (-2) 2 (by decide) (by decide) _) (by decide) rfl rfl (Nat.le_of_ble_eq_true rfl) lm0 (fun x22 μ22 hp22 => ?_)
                rw [hp22.1, hp22.2]
                refine v_ireturn (pc := 68) F dX10_tell_68 (rfl) ?_
                simp only [s_tell, rj, hnn, h5_2, ek_l, h14_5, ek_what, h27_13, h36_14, h46_15, h59_17, ↓reduceIte]
                refine ⟨?_, ?_⟩ <;> first | exact trivial | exact rfl | exact Fm.rf
          · rw [j_eq0 (by omega)] at h36_14
            exact absurd h36_14 (by decide)
        · rw [nI_eq (by omega) (by omega)] at h27_13
          exact absurd h27_13 (by decide)
      · skip
        refine v_iload_n (pc := 24) (i := 3) F dX10_tell_24 rfl rfl ?_
        refine v_iload_n (pc := 25) (i := 2) F dX10_tell_25 rfl rfl ?_
        refine v_iconst (pc := 26) (v := nI 2) F dX10_tell_26 (by decide) ?_
        refine v_icmp_ne (pc := 27) (tgt := 34) F dX10_tell_27 (by decide) (fun h27_23 => ?_) (fun h27_23 => ?_)
        · rw [nI_eq (by omega) (by omega)] at h27_23
          exact absurd h27_23 (by decide)
        · rw [nI_eq (by omega) (by omega)] at h27_23
          refine v_iconst (pc := 30) (v := (-1)) F dX10_tell_30 (by decide) ?_
          refine v_goto (pc := 31) (tgt := 35) F dX10_tell_31 (by decide) ?_
          refine v_iload_n (pc := 35) (i := 2) F dX10_tell_35 rfl rfl ?_
          refine v_if_ne (pc := 36) (tgt := 44) F dX10_tell_36 (by decide) (fun h36_24 => ?_) (fun h36_24 => ?_)
          · rw [j_eq0 (by omega)] at h36_24
            refine v_iload_n (pc := 44) (i := 2) F dX10_tell_44 rfl rfl ?_
            refine v_iconst (pc := 45) (v := nI 1) F dX10_tell_45 (by decide) ?_
            refine v_icmp_ne (pc := 46) (tgt := 54) F dX10_tell_46 (by decide) (fun h46_25 => ?_) (fun h46_25 => ?_)
            · rw [nI_eq (by omega) (by omega)] at h46_25
              refine v_bipush (pc := 54) (v := nI 7) F dX10_tell_54 (by decide) ?_
              refine v_callSI (pc := 56) (As := [_, _, _]) (rest := []) F mX10_within kX10_85 sm_X10_within dX10_tell_56 (c_X10_withinM _ _) (by decide) rfl rfl (Nat.le_of_ble_eq_true rfl) (fun x26 μ26 hp26 => ?_)
              rw [hp26.1, hp26.2]
              refine v_if_ne (pc := 59) (tgt := 69) F dX10_tell_59 (by decide) (fun h59_27 => ?_) (fun h59_27 => ?_)
              · rw [b2i_0] at h59_27
                rw [Classical.not_not] at h59_27
                refine v_iload_n (pc := 69) (i := 2) F dX10_tell_69 rfl rfl ?_
                refine v_if_ne (pc := 70) (tgt := 82) F dX10_tell_70 (by decide) (fun h70_28 => ?_) (fun h70_28 => ?_)
                · rw [j_eq0 (by omega)] at h70_28
                  refine v_iload_n (pc := 82) (i := 2) F dX10_tell_82 rfl rfl ?_
                  refine v_iconst (pc := 83) (v := nI 1) F dX10_tell_83 (by decide) ?_
                  refine v_icmp_ne (pc := 84) (tgt := 96) F dX10_tell_84 (by decide) (fun h84_29 => ?_) (fun h84_29 => ?_)
                  · rw [nI_eq (by omega) (by omega)] at h84_29
                    refine v_aload_n (pc := 96) (i := 0) F dX10_tell_96 rfl rfl ?_
                    refine v_getR (pc := 97) (o := 7) F fX10_28 dX10_tell_97 rfl lm0 ?_
                    refine v_topR (y := 7) rfl ?_
                    refine v_iload_n (pc := 100) (i := 1) F dX10_tell_100 rfl rfl ?_
                    refine v_ialdN (pc := 101) (k0 := k_l) F dX10_tell_101 (lm10_7 lm0) (rfl) (by omega) (by decide) ?_
                    refine v_istore (pc := 102) (lo' := [some (.ref _), some (.int _), some (.int _), some (.int _), some (.int _)]) F dX10_tell_102 rfl (Nat.le_of_ble_eq_true rfl) rfl ?_
                    refine v_iload_n (pc := 104) (i := 2) F dX10_tell_104 rfl rfl ?_
                    refine v_if_ne (pc := 105) (tgt := 118) F dX10_tell_105 (by decide) (fun h105_30 => ?_) (fun h105_30 => ?_)
                    · rw [j_eq0 (by omega)] at h105_30
                      refine v_iload_n (pc := 118) (i := 2) F dX10_tell_118 rfl rfl ?_
                      refine v_iconst (pc := 119) (v := nI 1) F dX10_tell_119 (by decide) ?_
                      refine v_icmp_ne (pc := 120) (tgt := 133) F dX10_tell_120 (by decide) (fun h120_31 => ?_) (fun h120_31 => ?_)
                      · rw [nI_eq (by omega) (by omega)] at h120_31
                        refine v_aload_n (pc := 133) (i := 0) F dX10_tell_133 rfl rfl ?_
                        refine v_getR (pc := 134) (o := 7) F fX10_28 dX10_tell_134 rfl lm0 ?_
                        refine v_topR (y := 7) rfl ?_
                        refine v_iload_n (pc := 137) (i := 1) F dX10_tell_137 rfl rfl ?_
                        refine v_iload_n (pc := 138) (i := 3) F dX10_tell_138 rfl rfl ?_
                        refine v_iastN (pc := 139) (k0 := k_l) F dX10_tell_139 (lm10_7 lm0) (rfl) (by omega) (by decide) ?_
                        refine v_iload (pc := 140) (i := 4) F dX10_tell_140 rfl ?_
                        refine v_ireturn (pc := 142) F dX10_tell_142 (rfl) ?_
                        simp only [s_tell, rj, hnn, h5_2, ek_l, h14_5, ek_what, h27_23, h36_24, h46_25, h59_27, h70_28, h84_29, h105_30, h120_31, ↓reduceIte]
                        refine ⟨?_, ?_⟩ <;> first | exact trivial | exact rfl | exact Fm.rf
                      · rw [nI_eq (by omega) (by omega)] at h120_31
                        exact absurd h120_31 (by decide)
                    · rw [j_eq0 (by omega)] at h105_30
                      exact absurd h105_30 (by decide)
                  · rw [nI_eq (by omega) (by omega)] at h84_29
                    exact absurd h84_29 (by decide)
                · rw [j_eq0 (by omega)] at h70_28
                  exact absurd h70_28 (by decide)
              · rw [b2i_0] at h59_27
                refine v_aload_n (pc := 62) (i := 0) F dX10_tell_62 rfl rfl ?_
                refine v_bipush (pc := 63) (v := (-2)) F dX10_tell_63 (by decide) ?_
                refine v_callVI (pc := 65) (As := [_]) (rest := []) (c := 10) F mX10_no kX10_96 im_X10_no se_X10_no dX10_tell_65 rfl rfl (by decide) (c_X10_no (-2) 2 (by decide) (by decide) _) (by decide) rfl rfl (Nat.le_of_ble_eq_true rfl) lm0 (fun x32 μ32 hp32 => ?_)
                rw [hp32.1, hp32.2]
                refine v_ireturn (pc := 68) F dX10_tell_68 (rfl) ?_
                simp only [s_tell, rj, hnn, h5_2, ek_l, h14_5, ek_what, h27_23, h36_24, h46_25, h59_27, ↓reduceIte]
                refine ⟨?_, ?_⟩ <;> first | exact trivial | exact rfl | exact Fm.rf
            · rw [nI_eq (by omega) (by omega)] at h46_25
              exact absurd h46_25 (by decide)
          · rw [j_eq0 (by omega)] at h36_24
            exact absurd h36_24 (by decide)
    · rw [b2i_0] at h14_5
      refine v_aload_n (pc := 17) (i := 0) F dX10_tell_17 rfl rfl ?_
      refine v_bipush (pc := 18) (v := (-2)) F dX10_tell_18 (by decide) ?_
      refine v_callVI (pc := 20) (As := [_]) (rest := []) (c := 10) F mX10_no kX10_96 im_X10_no se_X10_no dX10_tell_20 rfl rfl (by decide) (c_X10_no (-2) 2 (by decide) (by decide) _) (by decide) rfl rfl (Nat.le_of_ble_eq_true rfl) lm0 (fun x33 μ33 hp33 => ?_)
      rw [hp33.1, hp33.2]
      refine v_ireturn (pc := 23) F dX10_tell_23 (rfl) ?_
      simp only [s_tell, rj, hnn, h5_2, ek_l, h14_5, ↓reduceIte]
      refine ⟨?_, ?_⟩ <;> first | exact trivial | exact rfl | exact Fm.rf

set_option maxRecDepth 100000 in
theorem c_X10_feed (c : Int32) (μ : j_M) (hM : MI μ) : Ct yX10_feed cX10_feed 2 (some .int) 2 ΛM [.ref 0, .int c] μ (pI fun r μ2 => r = (s_feed c μ).1 ∧ Fm PS (s_feed c μ).2 μ2) := by
  refine Ct.go (lo := [some (.ref 0), some (.int c)]) (by decide) (Nat.le_of_ble_eq_true rfl) rfl rfl (fun X F => ?_)
  have F : Fx X cX10_feed RX10 2 (some .int) ΛM := F
  obtain ⟨n, hW, hsh, htp, him⟩ := id hM
  have hn := hW.1
  have hn8 := hW.2.1
  have hnn := nn_eq hn hn8
  have ho := hW.own
  have hrw : RW μ.1 n μ := RW.self hn
  obtain ⟨t, ht250, ht⟩ := htp
  have ekt : ix (μ.1 0 11) = t := by rw [ht]; exact ix_nI (by omega)
  refine v_iload_n (pc := 0) (i := 1) F dX10_feed_0 rfl rfl ?_
  refine v_iconst (pc := 1) (v := nI 0) F dX10_feed_1 (by decide) ?_
  refine v_sipush (pc := 2) (v := nI 255) F dX10_feed_2 (by decide) ?_
  refine v_callSI (pc := 5) (As := [_, _, _]) (rest := []) F mX10_within kX10_85 sm_X10_within dX10_feed_5 (c_X10_withinR _ 255 256 rfl (by decide) _) (by decide) rfl rfl (Nat.le_of_ble_eq_true rfl) (fun x1 μ1 hp1 => ?_)
  rw [hp1.1, hp1.2]
  refine v_if_ne (pc := 8) (tgt := 18) F dX10_feed_8 (by decide) (fun h8_2 => ?_) (fun h8_2 => ?_)
  · rw [b2i_0] at h8_2
    rw [Classical.not_not] at h8_2
    obtain ⟨k_c, hk_c, he_c⟩ := inR_of (by decide) h8_2
    subst he_c
    have ek_c : ix (nI k_c) = k_c := nI_clamp (by omega)
    refine v_aload_n (pc := 18) (i := 0) F dX10_feed_18 rfl rfl ?_
    refine v_getI (pc := 19) F fX10_131 dX10_feed_19 rfl lm0 ?_
    refine v_topE (ht) ?_
    refine v_sipush (pc := 22) (v := nI 250) F dX10_feed_22 (by decide) ?_
    refine v_icmp_ne (pc := 25) (tgt := 35) F dX10_feed_25 (by decide) (fun h25_3 => ?_) (fun h25_3 => ?_)
    · rw [nI_eq (by omega) (by omega)] at h25_3
      refine v_aload_n (pc := 35) (i := 0) F dX10_feed_35 rfl rfl ?_
      refine v_getR (pc := 36) (o := 9) F fX10_34 dX10_feed_36 rfl lm0 ?_
      refine v_topR (y := 9) rfl ?_
      refine v_aload_n (pc := 39) (i := 0) F dX10_feed_39 rfl rfl ?_
      refine v_dup (pc := 40) F dX10_feed_40 rfl ?_
      refine v_getI (pc := 41) F fX10_131 dX10_feed_41 rfl lm0 ?_
      refine v_topE (ht) ?_
      refine v_dup_x1 (pc := 44) F dX10_feed_44 rfl rfl ?_
      refine v_iconst (pc := 45) (v := nI 1) F dX10_feed_45 (by decide) ?_
      refine v_iadd (pc := 46) F dX10_feed_46 ?_
      refine v_topE (nI_add _ _) ?_
      refine v_put (pc := 47) F fX10_131 dX10_feed_47 rfl rfl rfl lm0 ?_
      refine v_iload_n (pc := 50) (i := 1) F dX10_feed_50 rfl rfl ?_
      refine v_iastN (pc := 51) (k0 := t) F dX10_feed_51 (lm10_12 lm0) (rfl) (by omega) (by decide) ?_
      refine v_aload_n (pc := 52) (i := 0) F dX10_feed_52 rfl rfl ?_
      refine v_getI (pc := 53) F fX10_131 dX10_feed_53 rfl lm0 ?_
      refine v_topE (y := nI (t + 1)) (rfl) ?_
      refine v_ireturn (pc := 56) F dX10_feed_56 (rfl) ?_
      simp only [s_feed, rj, hnn, ekt, h8_2, ek_c, h25_3, ↓reduceIte]
      refine ⟨?_, ?_⟩ <;> first | exact trivial | exact rfl | exact Fm.rf
    · rw [nI_eq (by omega) (by omega)] at h25_3
      refine v_aload_n (pc := 28) (i := 0) F dX10_feed_28 rfl rfl ?_
      refine v_bipush (pc := 29) (v := (-6)) F dX10_feed_29 (by decide) ?_
      refine v_callVI (pc := 31) (As := [_]) (rest := []) (c := 10) F mX10_no kX10_96 im_X10_no se_X10_no dX10_feed_31 rfl rfl (by decide) (c_X10_no (-6) 6 (by decide) (by decide) _) (by decide) rfl rfl (Nat.le_of_ble_eq_true rfl) lm0 (fun x4 μ4 hp4 => ?_)
      rw [hp4.1, hp4.2]
      refine v_ireturn (pc := 34) F dX10_feed_34 (rfl) ?_
      simp only [s_feed, rj, hnn, ekt, h8_2, ek_c, h25_3, ↓reduceIte]
      refine ⟨?_, ?_⟩ <;> first | exact trivial | exact rfl | exact Fm.rf
  · rw [b2i_0] at h8_2
    refine v_aload_n (pc := 11) (i := 0) F dX10_feed_11 rfl rfl ?_
    refine v_bipush (pc := 12) (v := (-2)) F dX10_feed_12 (by decide) ?_
    refine v_callVI (pc := 14) (As := [_]) (rest := []) (c := 10) F mX10_no kX10_96 im_X10_no se_X10_no dX10_feed_14 rfl rfl (by decide) (c_X10_no (-2) 2 (by decide) (by decide) _) (by decide) rfl rfl (Nat.le_of_ble_eq_true rfl) lm0 (fun x5 μ5 hp5 => ?_)
    rw [hp5.1, hp5.2]
    refine v_ireturn (pc := 17) F dX10_feed_17 (rfl) ?_
    simp only [s_feed, rj, hnn, ekt, h8_2, ↓reduceIte]
    refine ⟨?_, ?_⟩ <;> first | exact trivial | exact rfl | exact Fm.rf

set_option maxRecDepth 100000 in
theorem c_X10_wipe  (μ : j_M) (hM : MI μ) : Ct yX10_wipe cX10_wipe 2 (some .int) 0 ΛM [.ref 0] μ (pI fun r μ2 => r = (s_wipe μ).1 ∧ Fm PS (s_wipe μ).2 μ2) := by
  refine Ct.go (lo := [some (.ref 0), none]) (by decide) (Nat.le_of_ble_eq_true rfl) rfl rfl (fun X F => ?_)
  have F : Fx X cX10_wipe RX10 0 (some .int) ΛM := F
  obtain ⟨n, hW, hsh, htp, him⟩ := id hM
  have hn := hW.1
  have hn8 := hW.2.1
  have hnn := nn_eq hn hn8
  have ho := hW.own
  have hrw : RW μ.1 n μ := RW.self hn
  refine v_aload_n (pc := 0) (i := 0) F dX10_wipe_0 rfl rfl ?_
  refine v_getI (pc := 1) F fX10_131 dX10_wipe_1 rfl lm0 ?_
  refine v_istore_n (pc := 4) (lo' := [some (.ref _), some (.int _)]) F dX10_wipe_4 rfl rfl (Nat.le_of_ble_eq_true rfl) rfl ?_
  refine v_aload_n (pc := 5) (i := 0) F dX10_wipe_5 rfl rfl ?_
  refine v_iconst (pc := 6) (v := nI 0) F dX10_wipe_6 (by decide) ?_
  refine v_put (pc := 7) F fX10_131 dX10_wipe_7 rfl rfl rfl lm0 ?_
  refine v_iload_n (pc := 10) (i := 1) F dX10_wipe_10 rfl rfl ?_
  refine v_ireturn (pc := 11) F dX10_wipe_11 (rfl) ?_
  simp only [s_wipe, hnn, ↓reduceIte]
  refine ⟨?_, ?_⟩ <;> first | exact trivial | exact rfl | exact Fm.rf

set_option maxRecDepth 100000 in
theorem c_X10_sortAt (p : Int32) (μ : j_M) (hM : MI μ) : Ct yX10_sortAt cX10_sortAt 2 (some .int) 2 ΛM [.ref 0, .int p] μ (pI fun r μ2 => r = (s_sortAt p μ).1 ∧ Fm PS (s_sortAt p μ).2 μ2) := by
  refine Ct.go (lo := [some (.ref 0), some (.int p)]) (by decide) (Nat.le_of_ble_eq_true rfl) rfl rfl (fun X F => ?_)
  have F : Fx X cX10_sortAt RX10 2 (some .int) ΛM := F
  obtain ⟨n, hW, hsh, htp, him⟩ := id hM
  have hn := hW.1
  have hn8 := hW.2.1
  have hnn := nn_eq hn hn8
  have ho := hW.own
  have hrw : RW μ.1 n μ := RW.self hn
  refine v_iload_n (pc := 0) (i := 1) F dX10_sortAt_0 rfl rfl ?_
  refine v_callSI (pc := 1) (As := [_]) (rest := []) F mX10_isPlace kX10_121 sm_X10_isPlace dX10_sortAt_1 (c_X10_isPlace _ _) (by decide) rfl rfl (Nat.le_of_ble_eq_true rfl) (fun x1 μ1 hp1 => ?_)
  rw [hp1.1, hp1.2]
  refine v_if_eq (pc := 4) (tgt := 16) F dX10_sortAt_4 (by decide) (fun h4_2 => ?_) (fun h4_2 => ?_)
  · rw [b2i_0] at h4_2
    refine v_aload_n (pc := 16) (i := 0) F dX10_sortAt_16 rfl rfl ?_
    refine v_bipush (pc := 17) (v := (-2)) F dX10_sortAt_17 (by decide) ?_
    refine v_callVI (pc := 19) (As := [_]) (rest := []) (c := 10) F mX10_no kX10_96 im_X10_no se_X10_no dX10_sortAt_19 rfl rfl (by decide) (c_X10_no (-2) 2 (by decide) (by decide) _) (by decide) rfl rfl (Nat.le_of_ble_eq_true rfl) lm0 (fun x3 μ3 hp3 => ?_)
    rw [hp3.1, hp3.2]
    refine v_ireturn (pc := 22) F dX10_sortAt_22 (rfl) ?_
    simp only [s_sortAt, rj, hnn, h4_2, ↓reduceIte]
    refine ⟨?_, ?_⟩ <;> first | exact trivial | exact rfl | exact Fm.rf
  · rw [b2i_0] at h4_2
    rw [Classical.not_not] at h4_2
    obtain ⟨k_p, hk_p, he_p⟩ := inR_of (by decide) h4_2
    subst he_p
    have ek_p : ix (nI k_p) = k_p := nI_clamp (by omega)
    refine v_aload_n (pc := 7) (i := 0) F dX10_sortAt_7 rfl rfl ?_
    refine v_getR (pc := 8) (o := 1) F fX10_9 dX10_sortAt_8 rfl lm0 ?_
    refine v_topR (y := 1) rfl ?_
    refine v_iload_n (pc := 11) (i := 1) F dX10_sortAt_11 rfl rfl ?_
    refine v_ialdN (pc := 12) (k0 := k_p) F dX10_sortAt_12 (lm10_0 lm0) (rfl) (by omega) (by decide) ?_
    refine v_goto (pc := 13) (tgt := 22) F dX10_sortAt_13 (by decide) ?_
    refine v_ireturn (pc := 22) F dX10_sortAt_22 (rfl) ?_
    simp only [s_sortAt, rj, hnn, h4_2, ek_p, ↓reduceIte]
    refine ⟨?_, ?_⟩ <;> first | exact trivial | exact rfl | exact Fm.rf

set_option maxRecDepth 100000 in
theorem c_X10_lookerOf (l what : Int32) (μ : j_M) (hM : MI μ) : Ct yX10_lookerOf cX10_lookerOf 3 (some .int) 2 ΛM [.ref 0, .int l, .int what] μ (pI fun r μ2 => r = (s_lookerOf l what μ).1 ∧ Fm PS (s_lookerOf l what μ).2 μ2) := by
  refine Ct.go (lo := [some (.ref 0), some (.int l), some (.int what)]) (by decide) (Nat.le_of_ble_eq_true rfl) rfl rfl (fun X F => ?_)
  have F : Fx X cX10_lookerOf RX10 2 (some .int) ΛM := F
  obtain ⟨n, hW, hsh, htp, him⟩ := id hM
  have hn := hW.1
  have hn8 := hW.2.1
  have hnn := nn_eq hn hn8
  have ho := hW.own
  have hrw : RW μ.1 n μ := RW.self hn
  refine v_aload_n (pc := 0) (i := 0) F dX10_lookerOf_0 rfl rfl ?_
  refine v_iload_n (pc := 1) (i := 1) F dX10_lookerOf_1 rfl rfl ?_
  refine v_callVI (pc := 2) (As := [_]) (rest := []) (c := 10) F mX10_isLooker kX10_110 im_X10_isLooker se_X10_isLooker dX10_lookerOf_2 rfl rfl (by decide) (c_X10_isLooker _ n _ (by first | exact hn | assumption) hn8) (by decide) rfl rfl (Nat.le_of_ble_eq_true rfl) lm0 (fun x1 μ1 hp1 => ?_)
  rw [hp1.1, hp1.2]
  refine v_if_ne (pc := 5) (tgt := 15) F dX10_lookerOf_5 (by decide) (fun h5_2 => ?_) (fun h5_2 => ?_)
  · rw [b2i_0] at h5_2
    rw [Classical.not_not] at h5_2
    obtain ⟨k_l, hk_l, he_l⟩ := inR_of (by omega) h5_2
    subst he_l
    have ek_l : ix (nI k_l) = k_l := nI_clamp (by omega)
    refine v_iload_n (pc := 15) (i := 2) F dX10_lookerOf_15 rfl rfl ?_
    by_cases hs0 : what = 0
    · refine v_tin (pc := 16) (tgt := 56) F dX10_lookerOf_16 (by rw [hs0]; decide) (by rw [hs0]; decide) (by rw [hs0]; rfl) (by decide) ?_
      refine v_aload_n (pc := 56) (i := 0) F dX10_lookerOf_56 rfl rfl ?_
      refine v_getR (pc := 57) (o := 2) F fX10_13 dX10_lookerOf_57 rfl lm0 ?_
      refine v_topR (y := 2) rfl ?_
      refine v_iload_n (pc := 60) (i := 1) F dX10_lookerOf_60 rfl rfl ?_
      refine v_ialdN (pc := 61) (k0 := k_l) F dX10_lookerOf_61 (lm10_2 lm0) (rfl) (by omega) (by decide) ?_
      refine v_ireturn (pc := 62) F dX10_lookerOf_62 (rfl) ?_
      simp only [s_lookerOf, rj, hnn, h5_2, ek_l, hs0, ↓reduceIte]
      refine ⟨?_, ?_⟩ <;> first | exact trivial | exact rfl | exact Fm.rf
    by_cases hs1 : what = 1
    · refine v_tin (pc := 16) (tgt := 63) F dX10_lookerOf_16 (by rw [hs1]; decide) (by rw [hs1]; decide) (by rw [hs1]; rfl) (by decide) ?_
      refine v_aload_n (pc := 63) (i := 0) F dX10_lookerOf_63 rfl rfl ?_
      refine v_getR (pc := 64) (o := 3) F fX10_16 dX10_lookerOf_64 rfl lm0 ?_
      refine v_topR (y := 3) rfl ?_
      refine v_iload_n (pc := 67) (i := 1) F dX10_lookerOf_67 rfl rfl ?_
      refine v_ialdN (pc := 68) (k0 := k_l) F dX10_lookerOf_68 (lm10_3 lm0) (rfl) (by omega) (by decide) ?_
      refine v_ireturn (pc := 69) F dX10_lookerOf_69 (rfl) ?_
      simp only [s_lookerOf, rj, hnn, h5_2, ek_l, hs0, hs1, ↓reduceIte]
      refine ⟨?_, ?_⟩ <;> first | exact trivial | exact rfl | exact Fm.rf
    by_cases hs2 : what = 2
    · refine v_tin (pc := 16) (tgt := 70) F dX10_lookerOf_16 (by rw [hs2]; decide) (by rw [hs2]; decide) (by rw [hs2]; rfl) (by decide) ?_
      refine v_aload_n (pc := 70) (i := 0) F dX10_lookerOf_70 rfl rfl ?_
      refine v_getR (pc := 71) (o := 4) F fX10_19 dX10_lookerOf_71 rfl lm0 ?_
      refine v_topR (y := 4) rfl ?_
      refine v_iload_n (pc := 74) (i := 1) F dX10_lookerOf_74 rfl rfl ?_
      refine v_ialdN (pc := 75) (k0 := k_l) F dX10_lookerOf_75 (lm10_4 lm0) (rfl) (by omega) (by decide) ?_
      refine v_ireturn (pc := 76) F dX10_lookerOf_76 (rfl) ?_
      simp only [s_lookerOf, rj, hnn, h5_2, ek_l, hs0, hs1, hs2, ↓reduceIte]
      refine ⟨?_, ?_⟩ <;> first | exact trivial | exact rfl | exact Fm.rf
    by_cases hs3 : what = 3
    · refine v_tin (pc := 16) (tgt := 77) F dX10_lookerOf_16 (by rw [hs3]; decide) (by rw [hs3]; decide) (by rw [hs3]; rfl) (by decide) ?_
      refine v_aload_n (pc := 77) (i := 0) F dX10_lookerOf_77 rfl rfl ?_
      refine v_getR (pc := 78) (o := 5) F fX10_22 dX10_lookerOf_78 rfl lm0 ?_
      refine v_topR (y := 5) rfl ?_
      refine v_iload_n (pc := 81) (i := 1) F dX10_lookerOf_81 rfl rfl ?_
      refine v_ialdN (pc := 82) (k0 := k_l) F dX10_lookerOf_82 (lm10_5 lm0) (rfl) (by omega) (by decide) ?_
      refine v_ireturn (pc := 83) F dX10_lookerOf_83 (rfl) ?_
      simp only [s_lookerOf, rj, hnn, h5_2, ek_l, hs0, hs1, hs2, hs3, ↓reduceIte]
      refine ⟨?_, ?_⟩ <;> first | exact trivial | exact rfl | exact Fm.rf
    by_cases hs4 : what = 4
    · refine v_tin (pc := 16) (tgt := 84) F dX10_lookerOf_16 (by rw [hs4]; decide) (by rw [hs4]; decide) (by rw [hs4]; rfl) (by decide) ?_
      refine v_aload_n (pc := 84) (i := 0) F dX10_lookerOf_84 rfl rfl ?_
      refine v_getR (pc := 85) (o := 6) F fX10_25 dX10_lookerOf_85 rfl lm0 ?_
      refine v_topR (y := 6) rfl ?_
      refine v_iload_n (pc := 88) (i := 1) F dX10_lookerOf_88 rfl rfl ?_
      refine v_ialdN (pc := 89) (k0 := k_l) F dX10_lookerOf_89 (lm10_6 lm0) (rfl) (by omega) (by decide) ?_
      refine v_ireturn (pc := 90) F dX10_lookerOf_90 (rfl) ?_
      simp only [s_lookerOf, rj, hnn, h5_2, ek_l, hs0, hs1, hs2, hs3, hs4, ↓reduceIte]
      refine ⟨?_, ?_⟩ <;> first | exact trivial | exact rfl | exact Fm.rf
    by_cases hs5 : what = 5
    · refine v_tin (pc := 16) (tgt := 91) F dX10_lookerOf_16 (by rw [hs5]; decide) (by rw [hs5]; decide) (by rw [hs5]; rfl) (by decide) ?_
      refine v_aload_n (pc := 91) (i := 0) F dX10_lookerOf_91 rfl rfl ?_
      refine v_getR (pc := 92) (o := 7) F fX10_28 dX10_lookerOf_92 rfl lm0 ?_
      refine v_topR (y := 7) rfl ?_
      refine v_iload_n (pc := 95) (i := 1) F dX10_lookerOf_95 rfl rfl ?_
      refine v_ialdN (pc := 96) (k0 := k_l) F dX10_lookerOf_96 (lm10_7 lm0) (rfl) (by omega) (by decide) ?_
      refine v_ireturn (pc := 97) F dX10_lookerOf_97 (rfl) ?_
      simp only [s_lookerOf, rj, hnn, h5_2, ek_l, hs0, hs1, hs2, hs3, hs4, hs5, ↓reduceIte]
      refine ⟨?_, ?_⟩ <;> first | exact trivial | exact rfl | exact Fm.rf
    refine v_tout (pc := 16) (tgt := 98) F dX10_lookerOf_16 (j_sw05 hs0 hs1 hs2 hs3 hs4 hs5) (by decide) ?_
    refine v_iload_n (pc := 98) (i := 2) F dX10_lookerOf_98 rfl rfl ?_
    refine v_bipush (pc := 99) (v := nI 10) F dX10_lookerOf_99 (by decide) ?_
    refine v_bipush (pc := 101) (v := nI 17) F dX10_lookerOf_101 (by decide) ?_
    refine v_callSI (pc := 103) (As := [_, _, _]) (rest := []) F mX10_within kX10_85 sm_X10_within dX10_lookerOf_103 (c_X10_withinB _ 10 17 _) (by decide) rfl rfl (Nat.le_of_ble_eq_true rfl) (fun x9 μ9 hp9 => ?_)
    rw [hp9.1, hp9.2]
    refine v_if_eq (pc := 106) (tgt := 126) F dX10_lookerOf_106 (by decide) (fun hb => ?_) (fun hb => ?_)
    · rw [b2i_0] at hb
      refine v_aload_n (pc := 126) (i := 0) F dX10_lookerOf_126 rfl rfl ?_
      refine v_bipush (pc := 127) (v := (-2)) F dX10_lookerOf_127 (by decide) ?_
      refine v_callVI (pc := 129) (As := [_]) (rest := []) (c := 10) F mX10_no kX10_96 im_X10_no se_X10_no dX10_lookerOf_129 rfl rfl (by decide) (c_X10_no (-2) 2 (by decide) (by decide) _) (by decide) rfl rfl (Nat.le_of_ble_eq_true rfl) lm0 (fun x11 μ11 hp11 => ?_)
      rw [hp11.1, hp11.2]
      refine v_ireturn (pc := 132) F dX10_lookerOf_132 (rfl) ?_
      simp only [s_lookerOf, rj, hnn, h5_2, ek_l, hb, hs0, hs1, hs2, hs3, hs4, hs5, ↓reduceIte]
      refine ⟨?_, ?_⟩ <;> first | exact trivial | exact rfl | exact Fm.rf
    · rw [b2i_0] at hb
      rw [Classical.not_not] at hb
      obtain ⟨kw, hw1, hw2, hw3⟩ := inB_of (by decide) (by decide) hb
      subst hw3
      have ekw : ix (nI kw) = kw := ix_nI (by omega)
      refine v_aload_n (pc := 109) (i := 0) F dX10_lookerOf_109 rfl rfl ?_
      refine v_getR (pc := 110) (o := 8) F fX10_31 dX10_lookerOf_110 rfl lm0 ?_
      refine v_topR (y := 8) rfl ?_
      refine v_bipush (pc := 113) (v := nI 8) F dX10_lookerOf_113 (by decide) ?_
      refine v_iload_n (pc := 115) (i := 1) F dX10_lookerOf_115 rfl rfl ?_
      refine v_imul (pc := 116) F dX10_lookerOf_116 ?_
      refine v_topE (pk_mul _ _) ?_
      refine v_iload_n (pc := 117) (i := 2) F dX10_lookerOf_117 rfl rfl ?_
      refine v_iadd (pc := 118) F dX10_lookerOf_118 ?_
      refine v_topE (nI_add _ _) ?_
      refine v_bipush (pc := 119) (v := nI 10) F dX10_lookerOf_119 (by decide) ?_
      refine v_isub (pc := 121) F dX10_lookerOf_121 ?_
      refine v_topE (pk_sub (by omega)) ?_
      refine v_ialdN (pc := 122) (k0 := 8 * k_l + kw - 10) F dX10_lookerOf_122 (lm10_8 lm0) (rfl) (by omega) (by decide) ?_
      refine v_goto (pc := 123) (tgt := 132) F dX10_lookerOf_123 (by decide) ?_
      refine v_ireturn (pc := 132) F dX10_lookerOf_132 (rfl) ?_
      simp only [s_lookerOf, rj, hnn, h5_2, ek_l, hb, ekw, hs0, hs1, hs2, hs3, hs4, hs5, ↓reduceIte]
      refine ⟨?_, ?_⟩ <;> first | exact trivial | exact rfl | exact Fm.rf
  · rw [b2i_0] at h5_2
    refine v_aload_n (pc := 8) (i := 0) F dX10_lookerOf_8 rfl rfl ?_
    refine v_bipush (pc := 9) (v := (-2)) F dX10_lookerOf_9 (by decide) ?_
    refine v_callVI (pc := 11) (As := [_]) (rest := []) (c := 10) F mX10_no kX10_96 im_X10_no se_X10_no dX10_lookerOf_11 rfl rfl (by decide) (c_X10_no (-2) 2 (by decide) (by decide) _) (by decide) rfl rfl (Nat.le_of_ble_eq_true rfl) lm0 (fun x12 μ12 hp12 => ?_)
    rw [hp12.1, hp12.2]
    refine v_ireturn (pc := 14) F dX10_lookerOf_14 (rfl) ?_
    simp only [s_lookerOf, rj, hnn, h5_2, ↓reduceIte]
    refine ⟨?_, ?_⟩ <;> first | exact trivial | exact rfl | exact Fm.rf

set_option maxRecDepth 100000 in
theorem c_X10_seed (v : Int32) (μ : j_M) (hM : MI μ) : Ct yX10_seed cX10_seed 3 (some .int) 0 ΛM [.ref 0, .int v] μ (pI fun r μ2 => r = (s_seed v μ).1 ∧ Fm PS (s_seed v μ).2 μ2) := by
  refine Ct.go (lo := [some (.ref 0), some (.int v), none]) (by decide) (Nat.le_of_ble_eq_true rfl) rfl rfl (fun X F => ?_)
  have F : Fx X cX10_seed RX10 0 (some .int) ΛM := F
  obtain ⟨n, hW, hsh, htp, him⟩ := id hM
  have hn := hW.1
  have hn8 := hW.2.1
  have hnn := nn_eq hn hn8
  have ho := hW.own
  have hrw : RW μ.1 n μ := RW.self hn
  refine v_aload_n (pc := 0) (i := 0) F dX10_seed_0 rfl rfl ?_
  refine v_getI (pc := 1) F fX10_81 dX10_seed_1 rfl lm0 ?_
  refine v_istore_n (pc := 4) (lo' := [some (.ref _), some (.int _), some (.int _)]) F dX10_seed_4 rfl rfl (Nat.le_of_ble_eq_true rfl) rfl ?_
  refine v_aload_n (pc := 5) (i := 0) F dX10_seed_5 rfl rfl ?_
  refine v_iload_n (pc := 6) (i := 1) F dX10_seed_6 rfl rfl ?_
  refine v_put (pc := 7) F fX10_81 dX10_seed_7 rfl rfl rfl lm0 ?_
  refine v_iload_n (pc := 10) (i := 2) F dX10_seed_10 rfl rfl ?_
  refine v_ireturn (pc := 11) F dX10_seed_11 (rfl) ?_
  simp only [s_seed, hnn, ↓reduceIte]
  refine ⟨?_, ?_⟩ <;> first | exact trivial | exact rfl | exact Fm.rf
