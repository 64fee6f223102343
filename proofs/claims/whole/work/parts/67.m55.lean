/-! the class: crowds -/
abbrev PY (x c j : Nat) : Prop := x ≤ c ∧ c ≤ x + 2
def awN (a : Int32) : Int32 := if a = -1 then -1 else jbc a
theorem aw_sh {w : Nat → Nat → Int32} {n l : Nat} : ∀ k, awK w n l k = -1 ∨ ∃ j, j < k ∧ awK w n l k = nI j := by
  intro k
  induction k with
  | zero => exact Or.inl rfl
  | succ k ih =>
    have up : awK w n l (k + 1) = awK w n l k → (awK w n l (k + 1) = -1 ∨ ∃ j, j < k + 1 ∧ awK w n l (k + 1) = nI j) := fun e => by
      rw [e]
      exact ih.imp id (fun ⟨j, h1, h2⟩ => ⟨j, by omega, h2⟩)
    by_cases h1 : tb (nI k) l = true
    · exact up (awK_1 h1)
    by_cases h2 : ¬ awK w n l k = -1 ∧ ¬ jbc (nI k) < jbc (awK w n l k)
    · exact up (awK_2 h1 h2.1 h2.2)
    by_cases h3 : gdB w (OO w n (nI (2 ^ n - 1) &&& (nI k ^^^ (-1)))) l = true
    · exact Or.inr ⟨k, by omega, awK_3 h1 h2 h3⟩
    · exact up (awK_4 h1 h2 h3)
theorem awN_m1 {w : Nat → Nat → Int32} {n l k : Nat} (hk : k ≤ 4096) : (awN (awK w n l k) = -1) = (awK w n l k = -1) := by
  unfold awN
  by_cases h : awK w n l k = -1
  · rw [if_pos h]; simp [h]
  · rw [if_neg h]
    obtain ⟨j, h1, h2⟩ := (aw_sh k).resolve_left h
    rw [h2, jbc_n j (by omega)]
    have a : ¬ nI (cK (fun i => j.testBit i) 12) = -1 := j_m1 (by have := cK_le (fun i => j.testBit i) 12; omega)
    have b : ¬ nI j = -1 := j_m1 (by omega)
    simp [a, b]
theorem glE {w : Nat → Nat → Int32} {n l : Nat} {set : Int32} (hn : n ≤ 8) (hl : l < n) : tb (bK (fun l => tb set l && gdE w n set l) n) l = (tb set l && gdE w n set l) := by
  rw [tb_bK (by omega), decide_eq_true hl, Bool.true_and]
theorem all_but {n l k : Nat} (hn : n ≤ 8) (hl : l < n) (h : ¬ tb (nI k) l = true) : tb (nI (2 ^ n - 1) &&& (nI k ^^^ (-1))) l = true := by
  have h2 : tb (nI k) l = false := by simpa using h
  rw [tb_and, tb_xor, tb_m1 (by omega), tb_pm (by omega) l (by omega), h2, decide_eq_true hl]; rfl
theorem fN_s {P : Nat → Bool} {k : Nat} : fN P (k + 1) = match fN P k with
  | some x => some x
  | none => if P k = true then some k else none := by
  unfold fN
  rw [List.range_succ, List.find?_append]
  rcases List.find? P (List.range k) with _ | x
  · show List.find? P [k] = _
    rw [List.find?_cons]
    by_cases h : P k = true
    · rw [h]; rfl
    · have h2 : P k = false := by simpa using h
      rw [h2]; rfl
  · rfl
theorem fN_c0 {P : Nat → Bool} : ∀ k, (cK P k = 0) = (fN P k = none) := by
  intro k
  induction k with
  | zero => exact propext ⟨fun _ => rfl, fun _ => rfl⟩
  | succ k ih =>
    by_cases h : P k = true
    · rw [cK_t h, fN_s]
      rcases fN P k with _ | x
      · simp [h]
      · simp
    · rw [cK_f h, ih, fN_s]
      rcases fN P k with _ | x
      · simp [h]
      · simp
theorem an_0 {P : Nat → Bool} : ∀ k, cK P k = 0 → anK P k = -1 := by
  intro k
  induction k with
  | zero => intro _; rfl
  | succ k ih =>
    intro h
    by_cases c : P k = true
    · rw [cK_t c] at h; omega
    · rw [cK_f c] at h
      show (if P k = true then anK P k &&& nI k else anK P k) = -1
      rw [if_neg c]; exact ih h
theorem an_t {P : Nat → Bool} {k : Nat} (h : P k = true) : anK P (k + 1) = anK P k &&& nI k := if_pos h
theorem an_f {P : Nat → Bool} {k : Nat} (h : ¬ P k = true) : anK P (k + 1) = anK P k := if_neg h
theorem or_t {P : Nat → Bool} {k : Nat} (h : P k = true) : orK P (k + 1) = orK P k ||| nI k := if_pos h
theorem or_f {P : Nat → Bool} {k : Nat} (h : ¬ P k = true) : orK P (k + 1) = orK P k := if_neg h
theorem fN_f {P : Nat → Bool} {k : Nat} (h : ¬ P k = true) : fN P (k + 1) = fN P k := by
  rw [fN_s]
  rcases fN P k with _ | x
  · simp [h]
  · rfl
theorem fN_t0 {P : Nat → Bool} {k : Nat} (h : P k = true) (h0 : cK P k = 0) : fN P (k + 1) = some k := by
  have e : fN P k = none := by rw [← fN_c0 k]; exact h0
  rw [fN_s, e]
  simp [h]
theorem fN_t1 {P : Nat → Bool} {k : Nat} (h0 : ¬ cK P k = 0) : fN P (k + 1) = fN P k := by
  rw [fN_s]
  rcases e : fN P k with _ | x
  · exact absurd (by rw [fN_c0 k]; exact e) h0
  · rfl

set_option maxRecDepth 100000 in
theorem c_X1_findAway (x : Nat) (hx : j_ob ΛX x 1) (b : Nat) (hb : j_ob ΛX b 4) (n : Nat) (w : Nat → Nat → Int32) (μ : j_M) (hS : SQ μ b w n) (hW : WI w n) (hxb : x + 3 ≤ b ∨ b + 21 ≤ x) (l : Nat) (hl : l < n) : Ct yX1_findAway cX1_findAway 6 none 5 ΛX [.ref x, .ref b, .int (nI l)] μ (pV fun μ2 => Fm (PY x) μ μ2 ∧ μ2.1 x 1 = awN (awK w n l (2 ^ n)) ∧ μ2.1 x 2 = awK w n l (2 ^ n)) := by
  refine Ct.go (lo := [some (.ref x), some (.ref b), some (.int (nI l)), none, none, none]) (by decide) (Nat.le_of_ble_eq_true rfl) rfl rfl (fun X F => ?_)
  have F : Fx X cX1_findAway RX1 5 none ΛX := F
  have hn8 := hS.2
  have hpw := j_pw hn8
  refine v_aload_n (pc := 0) (i := 1) F dX1_findAway_0 rfl rfl ?_
  refine v_callVI (pc := 1) (As := []) (rest := []) (c := 4) F mX4_everybody kX1_18 im_X4_everybody se_X4_everybody dX1_findAway_1 rfl rfl (by decide) (c_X4_everybody b hb n w _ (hS)) (by decide) rfl rfl (Nat.le_of_ble_eq_true rfl) hb (fun x1 μ1 hp1 => ?_)
  rw [hp1.1, hp1.2]
  refine v_istore_n (pc := 4) (lo' := [some (.ref _), some (.ref _), some (.int _), some (.int _), _, _]) F dX1_findAway_4 rfl rfl (Nat.le_of_ble_eq_true rfl) rfl ?_
  refine v_aload_n (pc := 5) (i := 0) F dX1_findAway_5 rfl rfl ?_
  refine v_iconst (pc := 6) (v := (-1)) F dX1_findAway_6 (by decide) ?_
  refine v_put (pc := 7) F fX1_24 dX1_findAway_7 rfl rfl rfl hx ?_
  refine v_aload_n (pc := 10) (i := 0) F dX1_findAway_10 rfl rfl ?_
  refine v_iconst (pc := 11) (v := (-1)) F dX1_findAway_11 (by decide) ?_
  refine v_put (pc := 12) F fX1_28 dX1_findAway_12 rfl rfl rfl hx ?_
  refine v_iconst (pc := 15) (v := nI 0) F dX1_findAway_15 (by decide) ?_
  refine v_istore (pc := 16) (lo' := [some (.ref _), some (.ref _), some (.int _), some (.int _), some (.int _), _]) F dX1_findAway_16 rfl (Nat.le_of_ble_eq_true rfl) rfl ?_
  refine j_up ((2 ^ n)) (fun k => ∀ μ' : j_M, (Fm (PY x) μ μ' ∧ μ'.1 x 1 = awN (awK w n l k) ∧ μ'.1 x 2 = (awK w n l k)) → V X _ 18 [some (.ref x), some (.ref b), some (.int (nI l)), some (.int (nI (2 ^ n - 1))), some (.int (nI k)), none] [] μ') (fun k hk ih μ' hI => ?_) 0 (Nat.zero_le _) ((j_pI (j_pI μ x 1 ((-1))) x 2 ((-1)))) (⟨(Fm.rf.pI (by omega)).pI (by omega), (j_pI_off (by omega)).trans j_pI_at, j_pI_at⟩)
  have hS2 : SQ μ' b w n := SQ_F hS hI.1 (fun c j z => by omega)
  refine v_iload (pc := 18) (i := 4) F dX1_findAway_18 rfl ?_
  refine v_iload_n (pc := 20) (i := 3) F dX1_findAway_20 rfl rfl ?_
  refine v_icmp_gt (pc := 21) (tgt := 118) F dX1_findAway_21 (by decide) (fun hend => ?_) (fun hend => ?_)
  · skip
    have hk2 : k = 2 ^ n := by
      have := (nI_ltI (by omega) (by omega)).mp hend
      omega
    refine v_return (pc := 118) F dX1_findAway_118 ?_
    rw [hk2] at hI
    exact hI
  · skip
    have hk2 : k < 2 ^ n := by
      have h7 : ¬ 2 ^ n - 1 < k := fun z => hend ((nI_ltI (by omega) (by omega)).mpr z)
      omega
    refine v_aload_n (pc := 24) (i := 0) F dX1_findAway_24 rfl rfl ?_
    refine v_getI (pc := 25) F fX1_24 dX1_findAway_25 rfl hx ?_
    refine v_topE (y := (awN (awK w n l k))) (hI.2.1) ?_
    refine v_iconst (pc := 28) (v := (-1)) F dX1_findAway_28 (by decide) ?_
    refine v_icmp_eq (pc := 29) (tgt := 44) F dX1_findAway_29 (by decide) (fun hnn1 => ?_) (fun hnn1 => ?_)
    · rw [awN_m1 (by omega)] at hnn1
      have hnf2 : ¬ (¬ awK w n l k = -1 ∧ ¬ jbc (nI k) < jbc (awK w n l k)) := fun z => z.1 hnn1
      refine v_iconst (pc := 44) (v := nI 1) F dX1_findAway_44 (by decide) ?_
      refine v_goto (pc := 45) (tgt := 49) F dX1_findAway_45 (by decide) ?_
      refine v_istore (pc := 49) (lo' := [some (.ref _), some (.ref _), some (.int _), some (.int _), some (.int _), some (.int _)]) F dX1_findAway_49 rfl (Nat.le_of_ble_eq_true rfl) rfl ?_
      refine v_iload (pc := 51) (i := 4) F dX1_findAway_51 rfl ?_
      refine v_iload_n (pc := 53) (i := 2) F dX1_findAway_53 rfl rfl ?_
      refine v_ishr (pc := 54) F dX1_findAway_54 ?_
      refine v_iconst (pc := 55) (v := nI 1) F dX1_findAway_55 (by decide) ?_
      refine v_iand (pc := 56) F dX1_findAway_56 ?_
      refine v_if_ne (pc := 57) (tgt := 112) F dX1_findAway_57 (by decide) (fun hlk => ?_) (fun hlk => ?_)
      · rw [tb_if (by omega)] at hlk
        rw [Classical.not_not] at hlk
        refine v_iinc (pc := 112) (i := 4) (v := nI (k + 1)) (lo' := [some (.ref _), some (.ref _), some (.int _), some (.int _), some (.int _), some (.int _)]) F dX1_findAway_112 rfl (j_inc _) rfl rfl ?_
        refine v_goto (pc := 115) (tgt := 18) F dX1_findAway_115 (by decide) ?_
        refine v_drop (i := 5) (lo' := [some (.ref _), some (.ref _), some (.int _), some (.int _), some (.int _), _]) rfl ?_
        have q := ih (by omega)
        first | (rw [awK_1 hlk] at q; exact q _ hI) | (rw [awK_2 hlk hnf.1 hnf.2] at q; exact q _ hI)
      · rw [tb_if (by omega)] at hlk
        refine v_iload (pc := 60) (i := 5) F dX1_findAway_60 rfl ?_
        refine v_if_eq (pc := 62) (tgt := 112) F dX1_findAway_62 (by decide) (fun h62_5 => ?_) (fun h62_5 => ?_)
        · rw [j_eq0 (by omega)] at h62_5
          exact absurd h62_5 (by decide)
        · rw [j_eq0 (by omega)] at h62_5
          refine v_aload_n (pc := 65) (i := 0) F dX1_findAway_65 rfl rfl ?_
          refine v_getR (pc := 66) (o := 1) F fX1_12 dX1_findAway_66 rfl hx ?_
          refine v_topR (y := x + 1) rfl ?_
          refine v_aload_n (pc := 69) (i := 1) F dX1_findAway_69 rfl rfl ?_
          refine v_iload_n (pc := 70) (i := 3) F dX1_findAway_70 rfl rfl ?_
          refine v_iload (pc := 71) (i := 4) F dX1_findAway_71 rfl ?_
          refine v_iconst (pc := 73) (v := (-1)) F dX1_findAway_73 (by decide) ?_
          refine v_ixor (pc := 74) F dX1_findAway_74 ?_
          refine v_iand (pc := 75) F dX1_findAway_75 ?_
          refine v_aload_n (pc := 76) (i := 1) F dX1_findAway_76 rfl rfl ?_
          refine v_getI (pc := 77) F fX1_37 dX1_findAway_77 rfl hb ?_
          refine v_topE (y := (lfB (w 1))) (hS2.1.fil) ?_
          refine v_callVV (pc := 80) (As := [_, _, _]) (rest := []) (c := 2) F mX2_run kX1_40 im_X2_run se_X2_run dX1_findAway_80 rfl rfl (by decide) (c_X2_run (x + 1) (lx1_0 hx) b hb n w _ (hS2) hW ((nI (2 ^ n - 1) &&& (nI k ^^^ (-1)))) (w 1) UU.self (by omega)) (by decide) rfl rfl (Nat.le_of_ble_eq_true rfl) (lx1_0 hx) (fun μ6 hp6 => ?_)
          skip
          refine v_aload_n (pc := 83) (i := 0) F dX1_findAway_83 rfl rfl ?_
          refine v_getR (pc := 84) (o := 1) F fX1_12 dX1_findAway_84 rfl hx ?_
          refine v_topR (y := x + 1) rfl ?_
          refine v_getI (pc := 87) F fX1_44 dX1_findAway_87 rfl (lx1_0 hx) ?_
          refine v_topE (y := (bK (fun l => tb ((nI (2 ^ n - 1) &&& (nI k ^^^ (-1)))) l && gdE w n ((nI (2 ^ n - 1) &&& (nI k ^^^ (-1)))) l) n)) (hp6.2.2.2.1) ?_
          refine v_iload_n (pc := 90) (i := 2) F dX1_findAway_90 rfl rfl ?_
          refine v_ishr (pc := 91) F dX1_findAway_91 ?_
          refine v_iconst (pc := 92) (v := nI 1) F dX1_findAway_92 (by decide) ?_
          refine v_iand (pc := 93) F dX1_findAway_93 ?_
          refine v_if_eq (pc := 94) (tgt := 112) F dX1_findAway_94 (by decide) (fun hgl => ?_) (fun hgl => ?_)
          · rw [tb_if (by omega)] at hgl
            have hgd : ¬ gdE w n (nI (2 ^ n - 1) &&& (nI k ^^^ (-1))) l = true := by
              intro z
              refine hgl ?_
              rw [glE hn8 hl, all_but hn8 hl hlk, z]; rfl
            refine v_iinc (pc := 112) (i := 4) (v := nI (k + 1)) (lo' := [some (.ref _), some (.ref _), some (.int _), some (.int _), some (.int _), some (.int _)]) F dX1_findAway_112 rfl (j_inc _) rfl rfl ?_
            refine v_goto (pc := 115) (tgt := 18) F dX1_findAway_115 (by decide) ?_
            refine v_drop (i := 5) (lo' := [some (.ref _), some (.ref _), some (.int _), some (.int _), some (.int _), _]) rfl ?_
            have q := ih (by omega)
            rw [awK_4 hlk hnf2 hgd] at q
            exact q _ ⟨(hI.1.tr (hp6.1.mono (fun c j z => by omega))), (hp6.1.1 _ _ (by omega)).trans hI.2.1, (hp6.1.1 _ _ (by omega)).trans hI.2.2⟩
          · rw [tb_if (by omega)] at hgl
            rw [Classical.not_not] at hgl
            have hgd : gdE w n (nI (2 ^ n - 1) &&& (nI k ^^^ (-1))) l = true := by
              have q := hgl
              rw [glE hn8 hl, all_but hn8 hl hlk, Bool.true_and] at q
              exact q
            refine v_aload_n (pc := 97) (i := 0) F dX1_findAway_97 rfl rfl ?_
            refine v_iload (pc := 98) (i := 4) F dX1_findAway_98 rfl ?_
            refine v_callSI (pc := 100) (As := [_]) (rest := [_]) F mJ6_bitCount_0f7a4 kX1_31 sm_J6_bitCount_0f7a4 dX1_findAway_100 (c_J6_bc _ _ _) (by decide) rfl rfl (Nat.le_of_ble_eq_true rfl) (fun x8 μ8 hp8 => ?_)
            rw [hp8.1, hp8.2]
            refine v_put (pc := 103) F fX1_24 dX1_findAway_103 rfl rfl rfl hx ?_
            refine v_aload_n (pc := 106) (i := 0) F dX1_findAway_106 rfl rfl ?_
            refine v_iload (pc := 107) (i := 4) F dX1_findAway_107 rfl ?_
            refine v_put (pc := 109) F fX1_28 dX1_findAway_109 rfl rfl rfl hx ?_
            refine v_iinc (pc := 112) (i := 4) (v := nI (k + 1)) (lo' := [some (.ref _), some (.ref _), some (.int _), some (.int _), some (.int _), some (.int _)]) F dX1_findAway_112 rfl (j_inc _) rfl rfl ?_
            refine v_goto (pc := 115) (tgt := 18) F dX1_findAway_115 (by decide) ?_
            refine v_drop (i := 5) (lo' := [some (.ref _), some (.ref _), some (.int _), some (.int _), some (.int _), _]) rfl ?_
            have q := ih (by omega)
            rw [awK_3 hlk hnf2 hgd] at q
            exact q _ ⟨((hI.1.tr (hp6.1.mono (fun c j z => by omega))).pI (by omega)).pI (by omega), by rw [j_pI_off (by omega), j_pI_at]; unfold awN; rw [if_neg (j_m1 (by omega))], j_pI_at⟩
    · rw [awN_m1 (by omega)] at hnn1
      refine v_iload (pc := 32) (i := 4) F dX1_findAway_32 rfl ?_
      refine v_callSI (pc := 34) (As := [_]) (rest := []) F mJ6_bitCount_0f7a4 kX1_31 sm_J6_bitCount_0f7a4 dX1_findAway_34 (c_J6_bc _ _ _) (by decide) rfl rfl (Nat.le_of_ble_eq_true rfl) (fun x9 μ9 hp9 => ?_)
      rw [hp9.1, hp9.2]
      refine v_aload_n (pc := 37) (i := 0) F dX1_findAway_37 rfl rfl ?_
      refine v_getI (pc := 38) F fX1_24 dX1_findAway_38 rfl hx ?_
      refine v_topE (y := (awN (awK w n l k))) (hI.2.1) ?_
      refine v_icmp_ge (pc := 41) (tgt := 48) F dX1_findAway_41 (by decide) (fun hge => ?_) (fun hge => ?_)
      · skip
        have hnf : ¬ awK w n l k = -1 ∧ ¬ jbc (nI k) < jbc (awK w n l k) := ⟨hnn1, by
          have q := hge
          unfold awN at q
          rw [if_neg hnn1] at q
          exact Int32.not_lt.mpr q⟩
        refine v_iconst (pc := 48) (v := nI 0) F dX1_findAway_48 (by decide) ?_
        refine v_istore (pc := 49) (lo' := [some (.ref _), some (.ref _), some (.int _), some (.int _), some (.int _), some (.int _)]) F dX1_findAway_49 rfl (Nat.le_of_ble_eq_true rfl) rfl ?_
        refine v_iload (pc := 51) (i := 4) F dX1_findAway_51 rfl ?_
        refine v_iload_n (pc := 53) (i := 2) F dX1_findAway_53 rfl rfl ?_
        refine v_ishr (pc := 54) F dX1_findAway_54 ?_
        refine v_iconst (pc := 55) (v := nI 1) F dX1_findAway_55 (by decide) ?_
        refine v_iand (pc := 56) F dX1_findAway_56 ?_
        refine v_if_ne (pc := 57) (tgt := 112) F dX1_findAway_57 (by decide) (fun hlk => ?_) (fun hlk => ?_)
        · rw [tb_if (by omega)] at hlk
          rw [Classical.not_not] at hlk
          refine v_iinc (pc := 112) (i := 4) (v := nI (k + 1)) (lo' := [some (.ref _), some (.ref _), some (.int _), some (.int _), some (.int _), some (.int _)]) F dX1_findAway_112 rfl (j_inc _) rfl rfl ?_
          refine v_goto (pc := 115) (tgt := 18) F dX1_findAway_115 (by decide) ?_
          refine v_drop (i := 5) (lo' := [some (.ref _), some (.ref _), some (.int _), some (.int _), some (.int _), _]) rfl ?_
          have q := ih (by omega)
          first | (rw [awK_1 hlk] at q; exact q _ hI) | (rw [awK_2 hlk hnf.1 hnf.2] at q; exact q _ hI)
        · rw [tb_if (by omega)] at hlk
          refine v_iload (pc := 60) (i := 5) F dX1_findAway_60 rfl ?_
          refine v_if_eq (pc := 62) (tgt := 112) F dX1_findAway_62 (by decide) (fun h62_12 => ?_) (fun h62_12 => ?_)
          · rw [j_eq0 (by omega)] at h62_12
            refine v_iinc (pc := 112) (i := 4) (v := nI (k + 1)) (lo' := [some (.ref _), some (.ref _), some (.int _), some (.int _), some (.int _), some (.int _)]) F dX1_findAway_112 rfl (j_inc _) rfl rfl ?_
            refine v_goto (pc := 115) (tgt := 18) F dX1_findAway_115 (by decide) ?_
            refine v_drop (i := 5) (lo' := [some (.ref _), some (.ref _), some (.int _), some (.int _), some (.int _), _]) rfl ?_
            have q := ih (by omega)
            first | (rw [awK_1 hlk] at q; exact q _ hI) | (rw [awK_2 hlk hnf.1 hnf.2] at q; exact q _ hI)
          · rw [j_eq0 (by omega)] at h62_12
            exact absurd h62_12 (by decide)
      · skip
        have hnf2 : ¬ (¬ awK w n l k = -1 ∧ ¬ jbc (nI k) < jbc (awK w n l k)) := fun z => z.2 (by
          have q := Int32.not_le.mp hge
          unfold awN at q
          rw [if_neg hnn1] at q
          exact q)
        refine v_iconst (pc := 44) (v := nI 1) F dX1_findAway_44 (by decide) ?_
        refine v_goto (pc := 45) (tgt := 49) F dX1_findAway_45 (by decide) ?_
        refine v_istore (pc := 49) (lo' := [some (.ref _), some (.ref _), some (.int _), some (.int _), some (.int _), some (.int _)]) F dX1_findAway_49 rfl (Nat.le_of_ble_eq_true rfl) rfl ?_
        refine v_iload (pc := 51) (i := 4) F dX1_findAway_51 rfl ?_
        refine v_iload_n (pc := 53) (i := 2) F dX1_findAway_53 rfl rfl ?_
        refine v_ishr (pc := 54) F dX1_findAway_54 ?_
        refine v_iconst (pc := 55) (v := nI 1) F dX1_findAway_55 (by decide) ?_
        refine v_iand (pc := 56) F dX1_findAway_56 ?_
        refine v_if_ne (pc := 57) (tgt := 112) F dX1_findAway_57 (by decide) (fun hlk => ?_) (fun hlk => ?_)
        · rw [tb_if (by omega)] at hlk
          rw [Classical.not_not] at hlk
          refine v_iinc (pc := 112) (i := 4) (v := nI (k + 1)) (lo' := [some (.ref _), some (.ref _), some (.int _), some (.int _), some (.int _), some (.int _)]) F dX1_findAway_112 rfl (j_inc _) rfl rfl ?_
          refine v_goto (pc := 115) (tgt := 18) F dX1_findAway_115 (by decide) ?_
          refine v_drop (i := 5) (lo' := [some (.ref _), some (.ref _), some (.int _), some (.int _), some (.int _), _]) rfl ?_
          have q := ih (by omega)
          first | (rw [awK_1 hlk] at q; exact q _ hI) | (rw [awK_2 hlk hnf.1 hnf.2] at q; exact q _ hI)
        · rw [tb_if (by omega)] at hlk
          refine v_iload (pc := 60) (i := 5) F dX1_findAway_60 rfl ?_
          refine v_if_eq (pc := 62) (tgt := 112) F dX1_findAway_62 (by decide) (fun h62_14 => ?_) (fun h62_14 => ?_)
          · rw [j_eq0 (by omega)] at h62_14
            exact absurd h62_14 (by decide)
          · rw [j_eq0 (by omega)] at h62_14
            refine v_aload_n (pc := 65) (i := 0) F dX1_findAway_65 rfl rfl ?_
            refine v_getR (pc := 66) (o := 1) F fX1_12 dX1_findAway_66 rfl hx ?_
            refine v_topR (y := x + 1) rfl ?_
            refine v_aload_n (pc := 69) (i := 1) F dX1_findAway_69 rfl rfl ?_
            refine v_iload_n (pc := 70) (i := 3) F dX1_findAway_70 rfl rfl ?_
            refine v_iload (pc := 71) (i := 4) F dX1_findAway_71 rfl ?_
            refine v_iconst (pc := 73) (v := (-1)) F dX1_findAway_73 (by decide) ?_
            refine v_ixor (pc := 74) F dX1_findAway_74 ?_
            refine v_iand (pc := 75) F dX1_findAway_75 ?_
            refine v_aload_n (pc := 76) (i := 1) F dX1_findAway_76 rfl rfl ?_
            refine v_getI (pc := 77) F fX1_37 dX1_findAway_77 rfl hb ?_
            refine v_topE (y := (lfB (w 1))) (hS2.1.fil) ?_
            refine v_callVV (pc := 80) (As := [_, _, _]) (rest := []) (c := 2) F mX2_run kX1_40 im_X2_run se_X2_run dX1_findAway_80 rfl rfl (by decide) (c_X2_run (x + 1) (lx1_0 hx) b hb n w _ (hS2) hW ((nI (2 ^ n - 1) &&& (nI k ^^^ (-1)))) (w 1) UU.self (by omega)) (by decide) rfl rfl (Nat.le_of_ble_eq_true rfl) (lx1_0 hx) (fun μ15 hp15 => ?_)
            skip
            refine v_aload_n (pc := 83) (i := 0) F dX1_findAway_83 rfl rfl ?_
            refine v_getR (pc := 84) (o := 1) F fX1_12 dX1_findAway_84 rfl hx ?_
            refine v_topR (y := x + 1) rfl ?_
            refine v_getI (pc := 87) F fX1_44 dX1_findAway_87 rfl (lx1_0 hx) ?_
            refine v_topE (y := (bK (fun l => tb ((nI (2 ^ n - 1) &&& (nI k ^^^ (-1)))) l && gdE w n ((nI (2 ^ n - 1) &&& (nI k ^^^ (-1)))) l) n)) (hp15.2.2.2.1) ?_
            refine v_iload_n (pc := 90) (i := 2) F dX1_findAway_90 rfl rfl ?_
            refine v_ishr (pc := 91) F dX1_findAway_91 ?_
            refine v_iconst (pc := 92) (v := nI 1) F dX1_findAway_92 (by decide) ?_
            refine v_iand (pc := 93) F dX1_findAway_93 ?_
            refine v_if_eq (pc := 94) (tgt := 112) F dX1_findAway_94 (by decide) (fun hgl => ?_) (fun hgl => ?_)
            · rw [tb_if (by omega)] at hgl
              have hgd : ¬ gdE w n (nI (2 ^ n - 1) &&& (nI k ^^^ (-1))) l = true := by
                intro z
                refine hgl ?_
                rw [glE hn8 hl, all_but hn8 hl hlk, z]; rfl
              refine v_iinc (pc := 112) (i := 4) (v := nI (k + 1)) (lo' := [some (.ref _), some (.ref _), some (.int _), some (.int _), some (.int _), some (.int _)]) F dX1_findAway_112 rfl (j_inc _) rfl rfl ?_
              refine v_goto (pc := 115) (tgt := 18) F dX1_findAway_115 (by decide) ?_
              refine v_drop (i := 5) (lo' := [some (.ref _), some (.ref _), some (.int _), some (.int _), some (.int _), _]) rfl ?_
              have q := ih (by omega)
              rw [awK_4 hlk hnf2 hgd] at q
              exact q _ ⟨(hI.1.tr (hp15.1.mono (fun c j z => by omega))), (hp15.1.1 _ _ (by omega)).trans hI.2.1, (hp15.1.1 _ _ (by omega)).trans hI.2.2⟩
            · rw [tb_if (by omega)] at hgl
              rw [Classical.not_not] at hgl
              have hgd : gdE w n (nI (2 ^ n - 1) &&& (nI k ^^^ (-1))) l = true := by
                have q := hgl
                rw [glE hn8 hl, all_but hn8 hl hlk, Bool.true_and] at q
                exact q
              refine v_aload_n (pc := 97) (i := 0) F dX1_findAway_97 rfl rfl ?_
              refine v_iload (pc := 98) (i := 4) F dX1_findAway_98 rfl ?_
              refine v_callSI (pc := 100) (As := [_]) (rest := [_]) F mJ6_bitCount_0f7a4 kX1_31 sm_J6_bitCount_0f7a4 dX1_findAway_100 (c_J6_bc _ _ _) (by decide) rfl rfl (Nat.le_of_ble_eq_true rfl) (fun x17 μ17 hp17 => ?_)
              rw [hp17.1, hp17.2]
              refine v_put (pc := 103) F fX1_24 dX1_findAway_103 rfl rfl rfl hx ?_
              refine v_aload_n (pc := 106) (i := 0) F dX1_findAway_106 rfl rfl ?_
              refine v_iload (pc := 107) (i := 4) F dX1_findAway_107 rfl ?_
              refine v_put (pc := 109) F fX1_28 dX1_findAway_109 rfl rfl rfl hx ?_
              refine v_iinc (pc := 112) (i := 4) (v := nI (k + 1)) (lo' := [some (.ref _), some (.ref _), some (.int _), some (.int _), some (.int _), some (.int _)]) F dX1_findAway_112 rfl (j_inc _) rfl rfl ?_
              refine v_goto (pc := 115) (tgt := 18) F dX1_findAway_115 (by decide) ?_
              refine v_drop (i := 5) (lo' := [some (.ref _), some (.ref _), some (.int _), some (.int _), some (.int _), _]) rfl ?_
              have q := ih (by omega)
              rw [awK_3 hlk hnf2 hgd] at q
              exact q _ ⟨((hI.1.tr (hp15.1.mono (fun c j z => by omega))).pI (by omega)).pI (by omega), by rw [j_pI_off (by omega), j_pI_at]; unfold awN; rw [if_neg (j_m1 (by omega))], j_pI_at⟩

set_option maxRecDepth 100000 in
theorem c_X1_findGladdest (x : Nat) (hx : j_ob ΛX x 1) (b : Nat) (hb : j_ob ΛX b 4) (n : Nat) (w : Nat → Nat → Int32) (μ : j_M) (hS : SQ μ b w n) (hW : WI w n) (hxb : x + 3 ≤ b ∨ b + 21 ≤ x) (kk : Int32) : Ct yX1_findGladdest cX1_findGladdest 6 none 5 ΛX [.ref x, .ref b, .int kk] μ (pV fun μ2 => Fm (PY x) μ μ2 ∧ μ2.1 x 1 = (crK w n kk (2 ^ n)).1 ∧ μ2.1 x 2 = (crK w n kk (2 ^ n)).2) := by
  refine Ct.go (lo := [some (.ref x), some (.ref b), some (.int kk), none, none, none]) (by decide) (Nat.le_of_ble_eq_true rfl) rfl rfl (fun X F => ?_)
  have F : Fx X cX1_findGladdest RX1 5 none ΛX := F
  have hn8 := hS.2
  have hpw := j_pw hn8
  refine v_aload_n (pc := 0) (i := 1) F dX1_findGladdest_0 rfl rfl ?_
  refine v_callVI (pc := 1) (As := []) (rest := []) (c := 4) F mX4_everybody kX1_18 im_X4_everybody se_X4_everybody dX1_findGladdest_1 rfl rfl (by decide) (c_X4_everybody b hb n w _ (hS)) (by decide) rfl rfl (Nat.le_of_ble_eq_true rfl) hb (fun x1 μ1 hp1 => ?_)
  rw [hp1.1, hp1.2]
  refine v_istore_n (pc := 4) (lo' := [some (.ref _), some (.ref _), some (.int _), some (.int _), _, _]) F dX1_findGladdest_4 rfl rfl (Nat.le_of_ble_eq_true rfl) rfl ?_
  refine v_aload_n (pc := 5) (i := 0) F dX1_findGladdest_5 rfl rfl ?_
  refine v_iconst (pc := 6) (v := (-1)) F dX1_findGladdest_6 (by decide) ?_
  refine v_put (pc := 7) F fX1_24 dX1_findGladdest_7 rfl rfl rfl hx ?_
  refine v_aload_n (pc := 10) (i := 0) F dX1_findGladdest_10 rfl rfl ?_
  refine v_iconst (pc := 11) (v := (-1)) F dX1_findGladdest_11 (by decide) ?_
  refine v_put (pc := 12) F fX1_28 dX1_findGladdest_12 rfl rfl rfl hx ?_
  refine v_iconst (pc := 15) (v := nI 0) F dX1_findGladdest_15 (by decide) ?_
  refine v_istore (pc := 16) (lo' := [some (.ref _), some (.ref _), some (.int _), some (.int _), some (.int _), _]) F dX1_findGladdest_16 rfl (Nat.le_of_ble_eq_true rfl) rfl ?_
  refine j_up ((2 ^ n)) (fun k => ∀ μ' : j_M, (Fm (PY x) μ μ' ∧ μ'.1 x 1 = (crK w n kk k).1 ∧ μ'.1 x 2 = (crK w n kk k).2) → V X _ 18 [some (.ref x), some (.ref b), some (.int kk), some (.int (nI (2 ^ n - 1))), some (.int (nI k)), none] [] μ') (fun k hk ih μ' hI => ?_) 0 (Nat.zero_le _) ((j_pI (j_pI μ x 1 ((-1))) x 2 ((-1)))) (⟨(Fm.rf.pI (by omega)).pI (by omega), (j_pI_off (by omega)).trans j_pI_at, j_pI_at⟩)
  have hS2 : SQ μ' b w n := SQ_F hS hI.1 (fun c j z => by omega)
  refine v_iload (pc := 18) (i := 4) F dX1_findGladdest_18 rfl ?_
  refine v_iload_n (pc := 20) (i := 3) F dX1_findGladdest_20 rfl rfl ?_
  refine v_icmp_gt (pc := 21) (tgt := 86) F dX1_findGladdest_21 (by decide) (fun hend => ?_) (fun hend => ?_)
  · skip
    have hk2 : k = 2 ^ n := by
      have := (nI_ltI (by omega) (by omega)).mp hend
      omega
    refine v_return (pc := 86) F dX1_findGladdest_86 ?_
    rw [hk2] at hI
    exact hI
  · skip
    have hk2 : k < 2 ^ n := by
      have h7 : ¬ 2 ^ n - 1 < k := fun z => hend ((nI_ltI (by omega) (by omega)).mpr z)
      omega
    refine v_iload (pc := 24) (i := 4) F dX1_findGladdest_24 rfl ?_
    refine v_callSI (pc := 26) (As := [_]) (rest := []) F mJ6_bitCount_0f7a4 kX1_31 sm_J6_bitCount_0f7a4 dX1_findGladdest_26 (c_J6_bc _ _ _) (by decide) rfl rfl (Nat.le_of_ble_eq_true rfl) (fun x3 μ3 hp3 => ?_)
    rw [hp3.1, hp3.2]
    refine v_iload_n (pc := 29) (i := 2) F dX1_findGladdest_29 rfl rfl ?_
    refine v_icmp_ne (pc := 30) (tgt := 80) F dX1_findGladdest_30 (by decide) (fun hcnt => ?_) (fun hcnt => ?_)
    · skip
      refine v_iinc (pc := 80) (i := 4) (v := nI (k + 1)) (lo' := [some (.ref _), some (.ref _), some (.int _), some (.int _), some (.int _), _]) F dX1_findGladdest_80 rfl (j_inc _) rfl rfl ?_
      refine v_goto (pc := 83) (tgt := 18) F dX1_findGladdest_83 (by decide) ?_
      have q := ih (by omega)
      rw [crK_1 hcnt] at q
      exact q _ hI
    · skip
      refine v_aload_n (pc := 33) (i := 0) F dX1_findGladdest_33 rfl rfl ?_
      refine v_getR (pc := 34) (o := 1) F fX1_12 dX1_findGladdest_34 rfl hx ?_
      refine v_topR (y := x + 1) rfl ?_
      refine v_aload_n (pc := 37) (i := 1) F dX1_findGladdest_37 rfl rfl ?_
      refine v_iload (pc := 38) (i := 4) F dX1_findGladdest_38 rfl ?_
      refine v_aload_n (pc := 40) (i := 1) F dX1_findGladdest_40 rfl rfl ?_
      refine v_getI (pc := 41) F fX1_37 dX1_findGladdest_41 rfl hb ?_
      refine v_topE (y := (lfB (w 1))) (hS2.1.fil) ?_
      refine v_callVV (pc := 44) (As := [_, _, _]) (rest := []) (c := 2) F mX2_run kX1_40 im_X2_run se_X2_run dX1_findGladdest_44 rfl rfl (by decide) (c_X2_run (x + 1) (lx1_0 hx) b hb n w _ (hS2) hW (nI k) (w 1) UU.self (by omega)) (by decide) rfl rfl (Nat.le_of_ble_eq_true rfl) (lx1_0 hx) (fun μ5 hp5 => ?_)
      skip
      refine v_aload_n (pc := 47) (i := 0) F dX1_findGladdest_47 rfl rfl ?_
      refine v_getR (pc := 48) (o := 1) F fX1_12 dX1_findGladdest_48 rfl hx ?_
      refine v_topR (y := x + 1) rfl ?_
      refine v_getI (pc := 51) F fX1_44 dX1_findGladdest_51 rfl (lx1_0 hx) ?_
      refine v_topE (y := (bK (fun l => tb (nI k) l && gdE w n (nI k) l) n)) (hp5.2.2.2.1) ?_
      refine v_callSI (pc := 54) (As := [_]) (rest := []) F mJ6_bitCount_0f7a4 kX1_31 sm_J6_bitCount_0f7a4 dX1_findGladdest_54 (c_J6_bc _ _ _) (by decide) rfl rfl (Nat.le_of_ble_eq_true rfl) (fun x6 μ6 hp6 => ?_)
      rw [hp6.1, hp6.2, jbc_k hn8]
      refine v_istore (pc := 57) (lo' := [some (.ref _), some (.ref _), some (.int _), some (.int _), some (.int _), some (.int _)]) F dX1_findGladdest_57 rfl (Nat.le_of_ble_eq_true rfl) rfl ?_
      refine v_iload (pc := 59) (i := 5) F dX1_findGladdest_59 rfl ?_
      refine v_aload_n (pc := 61) (i := 0) F dX1_findGladdest_61 rfl rfl ?_
      refine v_getI (pc := 62) F fX1_24 dX1_findGladdest_62 rfl hx ?_
      refine v_topE (y := (crK w n kk k).1) ((hp5.1.1 _ _ (by omega)).trans (hI.2.1)) ?_
      refine v_icmp_le (pc := 65) (tgt := 80) F dX1_findGladdest_65 (by decide) (fun hle => ?_) (fun hle => ?_)
      · skip
        have hgr := Int32.not_lt.mpr hle
        refine v_iinc (pc := 80) (i := 4) (v := nI (k + 1)) (lo' := [some (.ref _), some (.ref _), some (.int _), some (.int _), some (.int _), some (.int _)]) F dX1_findGladdest_80 rfl (j_inc _) rfl rfl ?_
        refine v_goto (pc := 83) (tgt := 18) F dX1_findGladdest_83 (by decide) ?_
        refine v_drop (i := 5) (lo' := [some (.ref _), some (.ref _), some (.int _), some (.int _), some (.int _), _]) rfl ?_
        have q := ih (by omega)
        rw [crK_3 hcnt hgr] at q
        exact q _ ⟨(hI.1.tr (hp5.1.mono (fun c j z => by omega))), (hp5.1.1 _ _ (by omega)).trans hI.2.1, (hp5.1.1 _ _ (by omega)).trans hI.2.2⟩
      · skip
        have hgr := Int32.not_le.mp hle
        refine v_aload_n (pc := 68) (i := 0) F dX1_findGladdest_68 rfl rfl ?_
        refine v_iload (pc := 69) (i := 5) F dX1_findGladdest_69 rfl ?_
        refine v_put (pc := 71) F fX1_24 dX1_findGladdest_71 rfl rfl rfl hx ?_
        refine v_aload_n (pc := 74) (i := 0) F dX1_findGladdest_74 rfl rfl ?_
        refine v_iload (pc := 75) (i := 4) F dX1_findGladdest_75 rfl ?_
        refine v_put (pc := 77) F fX1_28 dX1_findGladdest_77 rfl rfl rfl hx ?_
        refine v_iinc (pc := 80) (i := 4) (v := nI (k + 1)) (lo' := [some (.ref _), some (.ref _), some (.int _), some (.int _), some (.int _), some (.int _)]) F dX1_findGladdest_80 rfl (j_inc _) rfl rfl ?_
        refine v_goto (pc := 83) (tgt := 18) F dX1_findGladdest_83 (by decide) ?_
        refine v_drop (i := 5) (lo' := [some (.ref _), some (.ref _), some (.int _), some (.int _), some (.int _), _]) rfl ?_
        have q := ih (by omega)
        rw [crK_2 hcnt hgr] at q
        exact q _ ⟨((hI.1.tr (hp5.1.mono (fun c j z => by omega))).pI (by omega)).pI (by omega), (j_pI_off (by omega)).trans j_pI_at, j_pI_at⟩

set_option maxRecDepth 100000 in
theorem c_X1_findLeaving (x : Nat) (hx : j_ob ΛX x 1) (b : Nat) (hb : j_ob ΛX b 4) (n : Nat) (w : Nat → Nat → Int32) (μ : j_M) (hS : SQ μ b w n) (hW : WI w n) (hxb : x + 3 ≤ b ∨ b + 21 ≤ x) (pl : Int32) : Ct yX1_findLeaving cX1_findLeaving 5 none 5 ΛX [.ref x, .ref b, .int pl] μ (pV fun μ2 => Fm (PY x) μ μ2 ∧ μ2.1 x 1 = nI (cK (whP w n pl) (2 ^ n)) ∧ μ2.1 x 2 = o2i (fN (whP w n pl) (2 ^ n)) ∧ μ2.1 x 3 = anK (whP w n pl) (2 ^ n) ∧ μ2.1 x 4 = orK (whP w n pl) (2 ^ n)) := by
  refine Ct.go (lo := [some (.ref x), some (.ref b), some (.int pl), none, none]) (by decide) (Nat.le_of_ble_eq_true rfl) rfl rfl (fun X F => ?_)
  have F : Fx X cX1_findLeaving RX1 5 none ΛX := F
  have hn8 := hS.2
  have hpw := j_pw hn8
  refine v_aload_n (pc := 0) (i := 1) F dX1_findLeaving_0 rfl rfl ?_
  refine v_callVI (pc := 1) (As := []) (rest := []) (c := 4) F mX4_everybody kX1_18 im_X4_everybody se_X4_everybody dX1_findLeaving_1 rfl rfl (by decide) (c_X4_everybody b hb n w _ (hS)) (by decide) rfl rfl (Nat.le_of_ble_eq_true rfl) hb (fun x1 μ1 hp1 => ?_)
  rw [hp1.1, hp1.2]
  refine v_istore_n (pc := 4) (lo' := [some (.ref _), some (.ref _), some (.int _), some (.int _), _]) F dX1_findLeaving_4 rfl rfl (Nat.le_of_ble_eq_true rfl) rfl ?_
  refine v_aload_n (pc := 5) (i := 0) F dX1_findLeaving_5 rfl rfl ?_
  refine v_iconst (pc := 6) (v := nI 0) F dX1_findLeaving_6 (by decide) ?_
  refine v_put (pc := 7) F fX1_24 dX1_findLeaving_7 rfl rfl rfl hx ?_
  refine v_aload_n (pc := 10) (i := 0) F dX1_findLeaving_10 rfl rfl ?_
  refine v_iconst (pc := 11) (v := (-1)) F dX1_findLeaving_11 (by decide) ?_
  refine v_put (pc := 12) F fX1_28 dX1_findLeaving_12 rfl rfl rfl hx ?_
  refine v_aload_n (pc := 15) (i := 0) F dX1_findLeaving_15 rfl rfl ?_
  refine v_iconst (pc := 16) (v := (-1)) F dX1_findLeaving_16 (by decide) ?_
  refine v_put (pc := 17) F fX1_47 dX1_findLeaving_17 rfl rfl rfl hx ?_
  refine v_aload_n (pc := 20) (i := 0) F dX1_findLeaving_20 rfl rfl ?_
  refine v_iconst (pc := 21) (v := nI 0) F dX1_findLeaving_21 (by decide) ?_
  refine v_put (pc := 22) F fX1_50 dX1_findLeaving_22 rfl rfl rfl hx ?_
  refine v_iconst (pc := 25) (v := nI 0) F dX1_findLeaving_25 (by decide) ?_
  refine v_istore (pc := 26) (lo' := [some (.ref _), some (.ref _), some (.int _), some (.int _), some (.int _)]) F dX1_findLeaving_26 rfl (Nat.le_of_ble_eq_true rfl) rfl ?_
  refine j_up ((2 ^ n)) (fun k => ∀ μ' : j_M, (Fm (PY x) μ μ' ∧ μ'.1 x 1 = nI (cK (whP w n pl) k) ∧ μ'.1 x 2 = o2i (fN (whP w n pl) k) ∧ μ'.1 x 3 = anK (whP w n pl) k ∧ μ'.1 x 4 = orK (whP w n pl) k) → V X _ 28 [some (.ref x), some (.ref b), some (.int pl), some (.int (nI (2 ^ n - 1))), some (.int (nI k))] [] μ') (fun k hk ih μ' hI => ?_) 0 (Nat.zero_le _) ((j_pI (j_pI (j_pI (j_pI μ x 1 (nI 0)) x 2 ((-1))) x 3 ((-1))) x 4 (nI 0))) (⟨(((Fm.rf.pI (by omega)).pI (by omega)).pI (by omega)).pI (by omega), by rw [j_pI_off (by omega), j_pI_off (by omega), j_pI_off (by omega), j_pI_at]; rfl, by rw [j_pI_off (by omega), j_pI_off (by omega), j_pI_at]; rfl, by rw [j_pI_off (by omega), j_pI_at]; rfl, j_pI_at⟩)
  have hS2 : SQ μ' b w n := SQ_F hS hI.1 (fun c j z => by omega)
  have hck := cK_le (whP w n pl) k
  refine v_iload (pc := 28) (i := 4) F dX1_findLeaving_28 rfl ?_
  refine v_iload_n (pc := 30) (i := 3) F dX1_findLeaving_30 rfl rfl ?_
  refine v_icmp_gt (pc := 31) (tgt := 129) F dX1_findLeaving_31 (by decide) (fun hend => ?_) (fun hend => ?_)
  · skip
    have hk2 : k = 2 ^ n := by
      have := (nI_ltI (by omega) (by omega)).mp hend
      omega
    refine v_return (pc := 129) F dX1_findLeaving_129 ?_
    rw [hk2] at hI
    exact hI
  · skip
    have hk2 : k < 2 ^ n := by
      have h7 : ¬ 2 ^ n - 1 < k := fun z => hend ((nI_ltI (by omega) (by omega)).mpr z)
      omega
    refine v_aload_n (pc := 34) (i := 0) F dX1_findLeaving_34 rfl rfl ?_
    refine v_getR (pc := 35) (o := 1) F fX1_12 dX1_findLeaving_35 rfl hx ?_
    refine v_topR (y := x + 1) rfl ?_
    refine v_aload_n (pc := 38) (i := 1) F dX1_findLeaving_38 rfl rfl ?_
    refine v_iload (pc := 39) (i := 4) F dX1_findLeaving_39 rfl ?_
    refine v_aload_n (pc := 41) (i := 1) F dX1_findLeaving_41 rfl rfl ?_
    refine v_getI (pc := 42) F fX1_37 dX1_findLeaving_42 rfl hb ?_
    refine v_topE (y := (lfB (w 1))) (hS2.1.fil) ?_
    refine v_callVV (pc := 45) (As := [_, _, _]) (rest := []) (c := 2) F mX2_run kX1_40 im_X2_run se_X2_run dX1_findLeaving_45 rfl rfl (by decide) (c_X2_run (x + 1) (lx1_0 hx) b hb n w _ (hS2) hW (nI k) (w 1) UU.self (by omega)) (by decide) rfl rfl (Nat.le_of_ble_eq_true rfl) (lx1_0 hx) (fun μ3 hp3 => ?_)
    skip
    refine v_aload_n (pc := 48) (i := 0) F dX1_findLeaving_48 rfl rfl ?_
    refine v_getR (pc := 49) (o := 1) F fX1_12 dX1_findLeaving_49 rfl hx ?_
    refine v_topR (y := x + 1) rfl ?_
    refine v_getI (pc := 52) F fX1_53 dX1_findLeaving_52 rfl (lx1_0 hx) ?_
    refine v_topE (y := (lfB (uE w n (nI k)))) (hp3.2.1) ?_
    refine v_iload_n (pc := 55) (i := 2) F dX1_findLeaving_55 rfl rfl ?_
    refine v_icmp_ne (pc := 56) (tgt := 123) F dX1_findLeaving_56 (by decide) (fun hlv => ?_) (fun hlv => ?_)
    · skip
      have hwf : ¬ whP w n pl k = true := whP_f hlv
      refine v_iinc (pc := 123) (i := 4) (v := nI (k + 1)) (lo' := [some (.ref _), some (.ref _), some (.int _), some (.int _), some (.int _)]) F dX1_findLeaving_123 rfl (j_inc _) rfl rfl ?_
      refine v_goto (pc := 126) (tgt := 28) F dX1_findLeaving_126 (by decide) ?_
      have q := ih (by omega)
      rw [cK_f (k := k) hwf, fN_f hwf, an_f hwf, or_f hwf] at q
      exact q _ ⟨(hI.1.tr (hp3.1.mono (fun c j z => by omega))), (hp3.1.1 _ _ (by omega)).trans hI.2.1, (hp3.1.1 _ _ (by omega)).trans hI.2.2.1, (hp3.1.1 _ _ (by omega)).trans hI.2.2.2.1, (hp3.1.1 _ _ (by omega)).trans hI.2.2.2.2⟩
    · skip
      have hwt : whP w n pl k = true := whP_t hlv
      by_cases hz0 : cK (whP w n pl) k = 0
      · skip
        refine v_aload_n (pc := 59) (i := 0) F dX1_findLeaving_59 rfl rfl ?_
        refine v_aload_n (pc := 60) (i := 0) F dX1_findLeaving_60 rfl rfl ?_
        refine v_getI (pc := 61) F fX1_24 dX1_findLeaving_61 rfl hx ?_
        refine v_topE (y := nI ((cK (whP w n pl) k))) ((hp3.1.1 _ _ (by omega)).trans (hI.2.1)) ?_
        refine v_if_ne (pc := 64) (tgt := 72) F dX1_findLeaving_64 (by decide) (fun h64_5 => ?_) (fun h64_5 => ?_)
        · rw [j_eq0 (by omega)] at h64_5
          exact absurd hz0 h64_5
        · rw [j_eq0 (by omega)] at h64_5
          refine v_iload (pc := 67) (i := 4) F dX1_findLeaving_67 rfl ?_
          refine v_goto (pc := 69) (tgt := 76) F dX1_findLeaving_69 (by decide) ?_
          refine v_put (pc := 76) F fX1_28 dX1_findLeaving_76 rfl rfl rfl hx ?_
          refine v_aload_n (pc := 79) (i := 0) F dX1_findLeaving_79 rfl rfl ?_
          refine v_aload_n (pc := 80) (i := 0) F dX1_findLeaving_80 rfl rfl ?_
          refine v_getI (pc := 81) F fX1_24 dX1_findLeaving_81 rfl hx ?_
          refine v_topE (y := nI ((cK (whP w n pl) k))) ((j_pI_off (by omega)).trans ((hp3.1.1 _ _ (by omega)).trans (hI.2.1))) ?_
          refine v_if_ne (pc := 84) (tgt := 92) F dX1_findLeaving_84 (by decide) (fun h84_6 => ?_) (fun h84_6 => ?_)
          · rw [j_eq0 (by omega)] at h84_6
            exact absurd hz0 h84_6
          · rw [j_eq0 (by omega)] at h84_6
            refine v_iload (pc := 87) (i := 4) F dX1_findLeaving_87 rfl ?_
            refine v_goto (pc := 89) (tgt := 99) F dX1_findLeaving_89 (by decide) ?_
            refine v_put (pc := 99) F fX1_47 dX1_findLeaving_99 rfl rfl rfl hx ?_
            refine v_aload_n (pc := 102) (i := 0) F dX1_findLeaving_102 rfl rfl ?_
            refine v_dup (pc := 103) F dX1_findLeaving_103 rfl ?_
            refine v_getI (pc := 104) F fX1_50 dX1_findLeaving_104 rfl hx ?_
            refine v_topE (y := (orK (whP w n pl) k)) ((j_pI_off (by omega)).trans ((j_pI_off (by omega)).trans ((hp3.1.1 _ _ (by omega)).trans (hI.2.2.2.2)))) ?_
            refine v_iload (pc := 107) (i := 4) F dX1_findLeaving_107 rfl ?_
            refine v_ior (pc := 109) F dX1_findLeaving_109 ?_
            refine v_put (pc := 110) F fX1_50 dX1_findLeaving_110 rfl rfl rfl hx ?_
            refine v_aload_n (pc := 113) (i := 0) F dX1_findLeaving_113 rfl rfl ?_
            refine v_dup (pc := 114) F dX1_findLeaving_114 rfl ?_
            refine v_getI (pc := 115) F fX1_24 dX1_findLeaving_115 rfl hx ?_
            refine v_topE (y := nI ((cK (whP w n pl) k))) ((j_pI_off (by omega)).trans ((j_pI_off (by omega)).trans ((j_pI_off (by omega)).trans ((hp3.1.1 _ _ (by omega)).trans (hI.2.1))))) ?_
            refine v_iconst (pc := 118) (v := nI 1) F dX1_findLeaving_118 (by decide) ?_
            refine v_iadd (pc := 119) F dX1_findLeaving_119 ?_
            refine v_topE (nI_add _ _) ?_
            refine v_put (pc := 120) F fX1_24 dX1_findLeaving_120 rfl rfl rfl hx ?_
            refine v_iinc (pc := 123) (i := 4) (v := nI (k + 1)) (lo' := [some (.ref _), some (.ref _), some (.int _), some (.int _), some (.int _)]) F dX1_findLeaving_123 rfl (j_inc _) rfl rfl ?_
            refine v_goto (pc := 126) (tgt := 28) F dX1_findLeaving_126 (by decide) ?_
            have q := ih (by omega)
            rw [cK_t (k := k) hwt, fN_t0 hwt hz0, an_t hwt, an_0 k hz0, m1_and, or_t hwt] at q
            exact q _ ⟨((((hI.1.tr (hp3.1.mono (fun c j z => by omega))).pI (by omega)).pI (by omega)).pI (by omega)).pI (by omega), j_pI_at, by rw [j_pI_off (by omega), j_pI_off (by omega), j_pI_off (by omega), j_pI_at]; rfl, by rw [j_pI_off (by omega), j_pI_off (by omega), j_pI_at], by rw [j_pI_off (by omega), j_pI_at]⟩
      · skip
        refine v_aload_n (pc := 59) (i := 0) F dX1_findLeaving_59 rfl rfl ?_
        refine v_aload_n (pc := 60) (i := 0) F dX1_findLeaving_60 rfl rfl ?_
        refine v_getI (pc := 61) F fX1_24 dX1_findLeaving_61 rfl hx ?_
        refine v_topE (y := nI ((cK (whP w n pl) k))) ((hp3.1.1 _ _ (by omega)).trans (hI.2.1)) ?_
        refine v_if_ne (pc := 64) (tgt := 72) F dX1_findLeaving_64 (by decide) (fun h64_7 => ?_) (fun h64_7 => ?_)
        · rw [j_eq0 (by omega)] at h64_7
          refine v_aload_n (pc := 72) (i := 0) F dX1_findLeaving_72 rfl rfl ?_
          refine v_getI (pc := 73) F fX1_28 dX1_findLeaving_73 rfl hx ?_
          refine v_topE (y := (o2i (fN (whP w n pl) k))) ((hp3.1.1 _ _ (by omega)).trans (hI.2.2.1)) ?_
          refine v_put (pc := 76) F fX1_28 dX1_findLeaving_76 rfl rfl rfl hx ?_
          refine v_aload_n (pc := 79) (i := 0) F dX1_findLeaving_79 rfl rfl ?_
          refine v_aload_n (pc := 80) (i := 0) F dX1_findLeaving_80 rfl rfl ?_
          refine v_getI (pc := 81) F fX1_24 dX1_findLeaving_81 rfl hx ?_
          refine v_topE (y := nI ((cK (whP w n pl) k))) ((j_pI_off (by omega)).trans ((hp3.1.1 _ _ (by omega)).trans (hI.2.1))) ?_
          refine v_if_ne (pc := 84) (tgt := 92) F dX1_findLeaving_84 (by decide) (fun h84_8 => ?_) (fun h84_8 => ?_)
          · rw [j_eq0 (by omega)] at h84_8
            refine v_aload_n (pc := 92) (i := 0) F dX1_findLeaving_92 rfl rfl ?_
            refine v_getI (pc := 93) F fX1_47 dX1_findLeaving_93 rfl hx ?_
            refine v_topE (y := (anK (whP w n pl) k)) ((j_pI_off (by omega)).trans ((hp3.1.1 _ _ (by omega)).trans (hI.2.2.2.1))) ?_
            refine v_iload (pc := 96) (i := 4) F dX1_findLeaving_96 rfl ?_
            refine v_iand (pc := 98) F dX1_findLeaving_98 ?_
            refine v_put (pc := 99) F fX1_47 dX1_findLeaving_99 rfl rfl rfl hx ?_
            refine v_aload_n (pc := 102) (i := 0) F dX1_findLeaving_102 rfl rfl ?_
            refine v_dup (pc := 103) F dX1_findLeaving_103 rfl ?_
            refine v_getI (pc := 104) F fX1_50 dX1_findLeaving_104 rfl hx ?_
            refine v_topE (y := (orK (whP w n pl) k)) ((j_pI_off (by omega)).trans ((j_pI_off (by omega)).trans ((hp3.1.1 _ _ (by omega)).trans (hI.2.2.2.2)))) ?_
            refine v_iload (pc := 107) (i := 4) F dX1_findLeaving_107 rfl ?_
            refine v_ior (pc := 109) F dX1_findLeaving_109 ?_
            refine v_put (pc := 110) F fX1_50 dX1_findLeaving_110 rfl rfl rfl hx ?_
            refine v_aload_n (pc := 113) (i := 0) F dX1_findLeaving_113 rfl rfl ?_
            refine v_dup (pc := 114) F dX1_findLeaving_114 rfl ?_
            refine v_getI (pc := 115) F fX1_24 dX1_findLeaving_115 rfl hx ?_
            refine v_topE (y := nI ((cK (whP w n pl) k))) ((j_pI_off (by omega)).trans ((j_pI_off (by omega)).trans ((j_pI_off (by omega)).trans ((hp3.1.1 _ _ (by omega)).trans (hI.2.1))))) ?_
            refine v_iconst (pc := 118) (v := nI 1) F dX1_findLeaving_118 (by decide) ?_
            refine v_iadd (pc := 119) F dX1_findLeaving_119 ?_
            refine v_topE (nI_add _ _) ?_
            refine v_put (pc := 120) F fX1_24 dX1_findLeaving_120 rfl rfl rfl hx ?_
            refine v_iinc (pc := 123) (i := 4) (v := nI (k + 1)) (lo' := [some (.ref _), some (.ref _), some (.int _), some (.int _), some (.int _)]) F dX1_findLeaving_123 rfl (j_inc _) rfl rfl ?_
            refine v_goto (pc := 126) (tgt := 28) F dX1_findLeaving_126 (by decide) ?_
            have q := ih (by omega)
            rw [cK_t (k := k) hwt, fN_t1 hz0, an_t hwt, or_t hwt] at q
            exact q _ ⟨((((hI.1.tr (hp3.1.mono (fun c j z => by omega))).pI (by omega)).pI (by omega)).pI (by omega)).pI (by omega), j_pI_at, by rw [j_pI_off (by omega), j_pI_off (by omega), j_pI_off (by omega), j_pI_at], by rw [j_pI_off (by omega), j_pI_off (by omega), j_pI_at], by rw [j_pI_off (by omega), j_pI_at]⟩
          · rw [j_eq0 (by omega)] at h84_8
            exact absurd h84_8 hz0
        · rw [j_eq0 (by omega)] at h64_7
          exact absurd h64_7 hz0
