/-! the reference's methods: a look, an order, an evening -/
/-- a memory that differs at most at the places of P -/
def Fm (P : Nat → Nat → Prop) (μ μ' : j_M) : Prop := (∀ c j, ¬ P c j → μ'.1 c j = μ.1 c j) ∧ μ'.2 = μ.2
theorem Fm.rf {P : Nat → Nat → Prop} {μ : j_M} : Fm P μ μ := ⟨fun _ _ _ => rfl, rfl⟩
theorem Fm.tr {P : Nat → Nat → Prop} {a b c : j_M} (h1 : Fm P a b) (h2 : Fm P b c) : Fm P a c := ⟨fun x j h => (h2.1 x j h).trans (h1.1 x j h), h2.2.trans h1.2⟩
theorem Fm.mono {P Q : Nat → Nat → Prop} {a b : j_M} (h : Fm P a b) (hPQ : ∀ c j, P c j → Q c j) : Fm Q a b := ⟨fun x j q => h.1 x j (fun z => q (hPQ x j z)), h.2⟩
theorem Fm.pI {P : Nat → Nat → Prop} {μ μ' : j_M} {c j : Nat} {v : Int32} (h : Fm P μ μ') (hp : P c j) : Fm P μ (j_pI μ' c j v) := ⟨fun x b q => by
  rw [← h.1 x b q]
  show (if x = c ∧ b = j then v else μ'.1 x b) = _
  rw [if_neg]
  rintro ⟨e1, e2⟩
  subst e1; subst e2
  exact q hp, h.2⟩
theorem j_pI_at {μ : j_M} {c j : Nat} {v : Int32} : (j_pI μ c j v).1 c j = v := by simp [j_pI]
theorem j_pI_off {μ : j_M} {c j a b : Nat} {v : Int32} (h : ¬ (a = c ∧ b = j)) : (j_pI μ c j v).1 a b = μ.1 a b := by simp only [j_pI, if_neg h]
theorem tI {x c : Int32} (h : ¬ x = c) : x.toInt ≠ c.toInt := fun q => h (Int32.toInt_inj.mp q)
theorem j_sw25 {x : Int32} (h2 : ¬ x = 2) (h3 : ¬ x = 3) (h4 : ¬ x = 4) (h5 : ¬ x = 5) : x.toInt < 2 ∨ 5 < x.toInt := by
  have a := tI h2
  have b := tI h3
  have c := tI h4
  have d := tI h5
  have e2 : (2 : Int32).toInt = 2 := by decide
  have e3 : (3 : Int32).toInt = 3 := by decide
  have e4 : (4 : Int32).toInt = 4 := by decide
  have e5 : (5 : Int32).toInt = 5 := by decide
  omega
theorem j_dec {α : Type} (f : α → Nat) (P : α → Prop) (h : ∀ a, (∀ b, f b < f a → P b) → P a) : ∀ a, P a := by
  have key : ∀ n a, f a < n → P a := by
    intro n
    induction n with
    | zero => intro a q; omega
    | succ n ih => exact fun a q => h a (fun b hb => ih b (by omega))
  exact fun a => key (f a + 1) a (Nat.lt_succ_self _)
theorem tk_2 {k a lk : Int32} {u : Nat → Int32} (h : k = 2) : tk k a lk u = (lP (fun p => likB a lk (u p))).toList := if_pos h
theorem tk_3n {k a lk : Int32} {u : Nat → Int32} (h : k = 3) (h2 : fP (fun p => u p == a) = none) : tk k a lk u = tkChild a lk u := by
  subst h; unfold tk; rw [if_neg (by decide), if_pos rfl, if_pos h2]
theorem tk_3s {k a lk : Int32} {u : Nat → Int32} (h : k = 3) (h2 : ¬ fP (fun p => u p == a) = none) : tk k a lk u = (List.range 12).filter (fun p => u p == a) := by
  subst h; unfold tk; rw [if_neg (by decide), if_pos rfl, if_neg h2]
theorem tk_4 {k a lk : Int32} {u : Nat → Int32} (h : k = 4) : tk k a lk u = (match lP (fun p => likB a lk (u p)) with
    | none => []
    | some p => if 1 < cP (fun q => u q == u p) then [p] else []) := by
  subst h; unfold tk; rw [if_neg (by decide), if_neg (by decide), if_pos rfl]; rfl
theorem tk_5 {k a lk : Int32} {u : Nat → Int32} (h : k = 5) : tk k a lk u = (shyO a lk u 8).2.toList := by
  subst h; unfold tk; rw [if_neg (by decide), if_neg (by decide), if_neg (by decide), if_pos rfl]
theorem tk_1 {k a lk : Int32} {u : Nat → Int32} (h : k = 1) : tk k a lk u = tkChild a lk u := by
  subst h; unfold tk; rw [if_neg (by decide), if_neg (by decide), if_neg (by decide), if_neg (by decide), if_pos rfl]
theorem tk_0 {k a lk : Int32} {u : Nat → Int32} (h2 : ¬ k = 2) (h3 : ¬ k = 3) (h4 : ¬ k = 4) (h5 : ¬ k = 5) (h1 : ¬ k = 1) : tk k a lk u = (lookO a lk u).toList := by
  unfold tk; rw [if_neg h2, if_neg h3, if_neg h4, if_neg h5, if_neg h1]
theorem greedy_step {μ : j_M} {l p : Nat} (hq : fP (fun p => μ.1 16 p == μ.1 3 l) = some p) (ha : ¬ μ.1 3 l = -1) : (List.range 12).filter (fun p => μ.1 16 p == μ.1 3 l) = p :: (List.range 12).filter (fun q => (m_tk μ l p).1 16 q == (m_tk μ l p).1 3 l) := by
  rw [fl_cons hq, m_tk_16, m_tk_c (c := 3) (by decide), rm_eq ha]

set_option maxRecDepth 100000 in
theorem c_X10_lookerGoes (l : Nat) (hl : l < 8) (μ : j_M) (ha : ¬ μ.1 3 l = -1) : Ct yX10_lookerGoes cX10_lookerGoes 3 none 3 ΛM [.ref 0, .int (nI l)] μ (pV fun μ2 => μ2 = m_tkL μ l (tk (μ.1 2 l) (μ.1 3 l) (μ.1 5 l) (μ.1 16))) := by
  refine Ct.go (lo := [some (.ref 0), some (.int (nI l)), none]) (by decide) (Nat.le_of_ble_eq_true rfl) rfl rfl (fun X F => ?_)
  have F : Fx X cX10_lookerGoes RX10 3 none ΛM := F
  refine v_aload_n (pc := 0) (i := 0) F dX10_lookerGoes_0 rfl rfl ?_
  refine v_iload_n (pc := 1) (i := 1) F dX10_lookerGoes_1 rfl rfl ?_
  refine v_callVI (pc := 2) (As := [_]) (rest := []) (c := 10) F mX10_lastLiked kX10_206 im_X10_lastLiked se_X10_lastLiked dX10_lookerGoes_2 rfl rfl (by decide) (c_X10_lastLiked l (by omega) _) (by decide) rfl rfl (Nat.le_of_ble_eq_true rfl) lm0 (fun x1 μ1 hp1 => ?_)
  rw [hp1.1, hp1.2]
  refine v_istore_n (pc := 5) (lo' := [some (.ref _), some (.int _), some (.int _)]) F dX10_lookerGoes_5 rfl rfl (Nat.le_of_ble_eq_true rfl) rfl ?_
  refine v_aload_n (pc := 6) (i := 0) F dX10_lookerGoes_6 rfl rfl ?_
  refine v_getR (pc := 7) (o := 2) F fX10_13 dX10_lookerGoes_7 rfl lm0 ?_
  refine v_topR (y := 2) rfl ?_
  refine v_iload_n (pc := 10) (i := 1) F dX10_lookerGoes_10 rfl rfl ?_
  refine v_ialdN (pc := 11) (k0 := l) F dX10_lookerGoes_11 (lm10_2 lm0) (rfl) (by omega) (by decide) ?_
  by_cases hs2 : (μ.1 2 l) = 2
  · refine v_tin (pc := 12) (tgt := 44) F dX10_lookerGoes_12 (by rw [hs2]; decide) (by rw [hs2]; decide) (by rw [hs2]; rfl) (by decide) ?_
    refine v_aload_n (pc := 44) (i := 0) F dX10_lookerGoes_44 rfl rfl ?_
    refine v_iload_n (pc := 45) (i := 1) F dX10_lookerGoes_45 rfl rfl ?_
    refine v_iload_n (pc := 46) (i := 2) F dX10_lookerGoes_46 rfl rfl ?_
    refine v_callVV (pc := 47) (As := [_, _]) (rest := []) (c := 10) F mX10_takes kX10_209 im_X10_takes se_X10_takes dX10_lookerGoes_47 rfl rfl (by decide) (c_X10_takesO l (by omega) ((lP (fun p => likB (μ.1 3 l) (μ.1 5 l) (μ.1 16 p)))) (by first | exact fP_lt | exact lP_lt | exact lookO_lt | exact shyO_lt) _) (by decide) rfl rfl (Nat.le_of_ble_eq_true rfl) lm0 (fun μ3 hp3 => ?_)
    rw [hp3]
    refine v_return (pc := 50) F dX10_lookerGoes_50 ?_
    rw [tk_2 hs2]
  by_cases hs3 : (μ.1 2 l) = 3
  · refine v_tin (pc := 12) (tgt := 51) F dX10_lookerGoes_12 (by rw [hs3]; decide) (by rw [hs3]; decide) (by rw [hs3]; rfl) (by decide) ?_
    refine v_aload_n (pc := 51) (i := 0) F dX10_lookerGoes_51 rfl rfl ?_
    refine v_aload_n (pc := 52) (i := 0) F dX10_lookerGoes_52 rfl rfl ?_
    refine v_getR (pc := 53) (o := 3) F fX10_16 dX10_lookerGoes_53 rfl lm0 ?_
    refine v_topR (y := 3) rfl ?_
    refine v_iload_n (pc := 56) (i := 1) F dX10_lookerGoes_56 rfl rfl ?_
    refine v_ialdN (pc := 57) (k0 := l) F dX10_lookerGoes_57 (lm10_3 lm0) (rfl) (by omega) (by decide) ?_
    refine v_callVI (pc := 58) (As := [_]) (rest := []) (c := 10) F mX10_firstWith kX10_197 im_X10_firstWith se_X10_firstWith dX10_lookerGoes_58 rfl rfl (by decide) (c_X10_firstWith _ _) (by decide) rfl rfl (Nat.le_of_ble_eq_true rfl) lm0 (fun x5 μ5 hp5 => ?_)
    rw [hp5.1, hp5.2]
    refine v_iconst (pc := 61) (v := (-1)) F dX10_lookerGoes_61 (by decide) ?_
    refine v_icmp_ne (pc := 62) (tgt := 88) F dX10_lookerGoes_62 (by decide) (fun hg => ?_) (fun hg => ?_)
    · rw [fP_m1] at hg
      refine j_dec (fun μ' : j_M => ((List.range 12).filter (fun p => μ'.1 16 p == μ'.1 3 l)).length) (fun μ' => ((∀ c, c ≠ 16 ∧ c ≠ 18 ∧ c ≠ 19 → μ'.1 c = μ.1 c) ∧ (fP (fun p => μ.1 16 p == μ.1 3 l) = none → False) ∧ m_tkL μ' l ((List.range 12).filter (fun p => μ'.1 16 p == μ'.1 3 l)) = m_tkL μ l ((List.range 12).filter (fun p => μ.1 16 p == μ.1 3 l))) → V X _ 88 [some (.ref 0), some (.int (nI l)), some (.int (o2i (lP (fun p => likB (μ.1 3 l) (μ.1 5 l) (μ.1 16 p)))))] [] μ') (fun μ' ih hI => ?_) μ ⟨fun _ _ => rfl, hg, rfl⟩
      refine v_aload_n (pc := 88) (i := 0) F dX10_lookerGoes_88 rfl rfl ?_
      refine v_aload_n (pc := 89) (i := 0) F dX10_lookerGoes_89 rfl rfl ?_
      refine v_getR (pc := 90) (o := 3) F fX10_16 dX10_lookerGoes_90 rfl lm0 ?_
      refine v_topR (y := 3) rfl ?_
      refine v_iload_n (pc := 93) (i := 1) F dX10_lookerGoes_93 rfl rfl ?_
      refine v_ialdN (pc := 94) (k0 := l) F dX10_lookerGoes_94 (lm10_3 lm0) (rfl) (by omega) (by decide) ?_
      refine v_callVI (pc := 95) (As := [_]) (rest := []) (c := 10) F mX10_firstWith kX10_197 im_X10_firstWith se_X10_firstWith dX10_lookerGoes_95 rfl rfl (by decide) (c_X10_firstWith _ _) (by decide) rfl rfl (Nat.le_of_ble_eq_true rfl) lm0 (fun x7 μ7 hp7 => ?_)
      rw [hp7.1, hp7.2]
      refine v_iconst (pc := 98) (v := (-1)) F dX10_lookerGoes_98 (by decide) ?_
      refine v_icmp_eq (pc := 99) (tgt := 120) F dX10_lookerGoes_99 (by decide) (fun hz => ?_) (fun hz => ?_)
      · rw [fP_m1] at hz
        refine v_return (pc := 120) F dX10_lookerGoes_120 ?_
        rw [tk_3s hs3 hg, ← hI.2.2, fl_nil hz]
        rfl
      · rw [fP_m1] at hz
        refine v_aload_n (pc := 102) (i := 0) F dX10_lookerGoes_102 rfl rfl ?_
        refine v_iload_n (pc := 103) (i := 1) F dX10_lookerGoes_103 rfl rfl ?_
        refine v_aload_n (pc := 104) (i := 0) F dX10_lookerGoes_104 rfl rfl ?_
        refine v_aload_n (pc := 105) (i := 0) F dX10_lookerGoes_105 rfl rfl ?_
        refine v_getR (pc := 106) (o := 3) F fX10_16 dX10_lookerGoes_106 rfl lm0 ?_
        refine v_topR (y := 3) rfl ?_
        refine v_iload_n (pc := 109) (i := 1) F dX10_lookerGoes_109 rfl rfl ?_
        refine v_ialdN (pc := 110) (k0 := l) F dX10_lookerGoes_110 (lm10_3 lm0) (rfl) (by omega) (by decide) ?_
        refine v_callVI (pc := 111) (As := [_]) (rest := [_, _]) (c := 10) F mX10_firstWith kX10_197 im_X10_firstWith se_X10_firstWith dX10_lookerGoes_111 rfl rfl (by decide) (c_X10_firstWith _ _) (by decide) rfl rfl (Nat.le_of_ble_eq_true rfl) lm0 (fun x9 μ9 hp9 => ?_)
        rw [hp9.1, hp9.2]
        refine v_callVV (pc := 114) (As := [_, _]) (rest := []) (c := 10) F mX10_takes kX10_209 im_X10_takes se_X10_takes dX10_lookerGoes_114 rfl rfl (by decide) (c_X10_takesO l (by omega) ((fP (fun p => μ'.1 16 p == (μ'.1 3 l)))) (by first | exact fP_lt | exact lP_lt | exact lookO_lt | exact shyO_lt) _) (by decide) rfl rfl (Nat.le_of_ble_eq_true rfl) lm0 (fun μ10 hp10 => ?_)
        rw [hp10]
        refine v_goto (pc := 117) (tgt := 88) F dX10_lookerGoes_117 (by decide) ?_
        rcases hq : fP (fun p => μ'.1 16 p == μ'.1 3 l) with _ | p0
        · exact absurd hq hz
        have ha' : ¬ μ'.1 3 l = -1 := by rw [hI.1 3 (by decide)]; exact ha
        have hgs := greedy_step hq ha'
        refine ih (m_tk μ' l p0) ?_ ⟨fun c hc => (m_tk_c hc).trans (hI.1 c hc), hI.2.1, ?_⟩
        · rw [hgs]; exact Nat.lt_succ_self _
        · rw [← hI.2.2, hgs]; rfl
    · rw [fP_m1] at hg
      refine v_aload_n (pc := 65) (i := 0) F dX10_lookerGoes_65 rfl rfl ?_
      refine v_iload_n (pc := 66) (i := 1) F dX10_lookerGoes_66 rfl rfl ?_
      refine v_aload_n (pc := 67) (i := 0) F dX10_lookerGoes_67 rfl rfl ?_
      refine v_iload_n (pc := 68) (i := 1) F dX10_lookerGoes_68 rfl rfl ?_
      refine v_callVI (pc := 69) (As := [_]) (rest := [_, _]) (c := 10) F mX10_look kX10_213 im_X10_look se_X10_look dX10_lookerGoes_69 rfl rfl (by decide) (c_X10_look l (by omega) _) (by decide) rfl rfl (Nat.le_of_ble_eq_true rfl) lm0 (fun x11 μ11 hp11 => ?_)
      rw [hp11.1, hp11.2]
      refine v_callVV (pc := 72) (As := [_, _]) (rest := []) (c := 10) F mX10_takes kX10_209 im_X10_takes se_X10_takes dX10_lookerGoes_72 rfl rfl (by decide) (c_X10_takesO l (by omega) ((lookO (μ.1 3 l) (μ.1 5 l) (μ.1 16))) (by first | exact fP_lt | exact lP_lt | exact lookO_lt | exact shyO_lt) _) (by decide) rfl rfl (Nat.le_of_ble_eq_true rfl) lm0 (fun μ12 hp12 => ?_)
      rw [hp12]
      refine v_aload_n (pc := 75) (i := 0) F dX10_lookerGoes_75 rfl rfl ?_
      refine v_iload_n (pc := 76) (i := 1) F dX10_lookerGoes_76 rfl rfl ?_
      refine v_aload_n (pc := 77) (i := 0) F dX10_lookerGoes_77 rfl rfl ?_
      refine v_iload_n (pc := 78) (i := 1) F dX10_lookerGoes_78 rfl rfl ?_
      refine v_callVI (pc := 79) (As := [_]) (rest := [_, _]) (c := 10) F mX10_look kX10_213 im_X10_look se_X10_look dX10_lookerGoes_79 rfl rfl (by decide) (c_X10_look l (by omega) _) (by decide) rfl rfl (Nat.le_of_ble_eq_true rfl) lm0 (fun x13 μ13 hp13 => ?_)
      rw [hp13.1, hp13.2]
      refine v_callVV (pc := 82) (As := [_, _]) (rest := []) (c := 10) F mX10_takes kX10_209 im_X10_takes se_X10_takes dX10_lookerGoes_82 rfl rfl (by decide) (c_X10_takesO l (by omega) ((lookO ((m_tkL μ l ((lookO (μ.1 3 l) (μ.1 5 l) (μ.1 16))).toList).1 3 l) ((m_tkL μ l ((lookO (μ.1 3 l) (μ.1 5 l) (μ.1 16))).toList).1 5 l) ((m_tkL μ l ((lookO (μ.1 3 l) (μ.1 5 l) (μ.1 16))).toList).1 16))) (by first | exact fP_lt | exact lP_lt | exact lookO_lt | exact shyO_lt) _) (by decide) rfl rfl (Nat.le_of_ble_eq_true rfl) lm0 (fun μ14 hp14 => ?_)
      rw [hp14]
      refine v_goto (pc := 85) (tgt := 120) F dX10_lookerGoes_85 (by decide) ?_
      refine v_return (pc := 120) F dX10_lookerGoes_120 ?_
      rw [tk_3n hs3 hg, m_tkL_c (c := 3) (by decide), m_tkL_c (c := 5) (by decide), m_tkL_16, ← m_tkL_app]
      rfl
  by_cases hs4 : (μ.1 2 l) = 4
  · refine v_tin (pc := 12) (tgt := 121) F dX10_lookerGoes_12 (by rw [hs4]; decide) (by rw [hs4]; decide) (by rw [hs4]; rfl) (by decide) ?_
    refine v_iload_n (pc := 121) (i := 2) F dX10_lookerGoes_121 rfl rfl ?_
    refine v_iconst (pc := 122) (v := (-1)) F dX10_lookerGoes_122 (by decide) ?_
    refine v_icmp_eq (pc := 123) (tgt := 146) F dX10_lookerGoes_123 (by decide) (fun he => ?_) (fun he => ?_)
    · rw [lP_m1] at he
      refine v_return (pc := 146) F dX10_lookerGoes_146 ?_
      rw [tk_4 hs4, he]
      rfl
    · rw [lP_m1] at he
      rcases hp : lP (fun p => likB (μ.1 3 l) (μ.1 5 l) (μ.1 16 p)) with _ | p0
      · skip
        exact absurd hp he
      · skip
        have hp0 := lP_lt p0 hp
        refine v_aload_n (pc := 126) (i := 0) F dX10_lookerGoes_126 rfl rfl ?_
        refine v_aload_n (pc := 127) (i := 0) F dX10_lookerGoes_127 rfl rfl ?_
        refine v_getR (pc := 128) (o := 16) F fX10_56 dX10_lookerGoes_128 rfl lm0 ?_
        refine v_topR (y := 16) rfl ?_
        refine v_iload_n (pc := 131) (i := 2) F dX10_lookerGoes_131 rfl rfl ?_
        refine v_ialdN (pc := 132) (k0 := p0) F dX10_lookerGoes_132 (lm10_24 lm0) (rfl) (by omega) (by decide) ?_
        refine v_callVI (pc := 133) (As := [_]) (rest := []) (c := 10) F mX10_manyOf kX10_203 im_X10_manyOf se_X10_manyOf dX10_lookerGoes_133 rfl rfl (by decide) (c_X10_manyOf _ _) (by decide) rfl rfl (Nat.le_of_ble_eq_true rfl) lm0 (fun x17 μ17 hp17 => ?_)
        rw [hp17.1, hp17.2]
        refine v_iconst (pc := 136) (v := nI 1) F dX10_lookerGoes_136 (by decide) ?_
        refine v_icmp_le (pc := 137) (tgt := 146) F dX10_lookerGoes_137 (by decide) (fun hm => ?_) (fun hm => ?_)
        · rw [nI_leI cP_b (by decide)] at hm
          refine v_return (pc := 146) F dX10_lookerGoes_146 ?_
          rw [tk_4 hs4, hp]
          simp only []
          rw [if_neg (by omega)]
          rfl
        · rw [nI_leI cP_b (by decide)] at hm
          refine v_aload_n (pc := 140) (i := 0) F dX10_lookerGoes_140 rfl rfl ?_
          refine v_iload_n (pc := 141) (i := 1) F dX10_lookerGoes_141 rfl rfl ?_
          refine v_iload_n (pc := 142) (i := 2) F dX10_lookerGoes_142 rfl rfl ?_
          refine v_callVV (pc := 143) (As := [_, _]) (rest := []) (c := 10) F mX10_takes kX10_209 im_X10_takes se_X10_takes dX10_lookerGoes_143 rfl rfl (by decide) (c_X10_takesS l (by omega) p0 (by omega) _) (by decide) rfl rfl (Nat.le_of_ble_eq_true rfl) lm0 (fun μ19 hp19 => ?_)
          rw [hp19]
          refine v_return (pc := 146) F dX10_lookerGoes_146 ?_
          rw [tk_4 hs4, hp]
          simp only []
          rw [if_pos (by omega)]
          rfl
  by_cases hs5 : (μ.1 2 l) = 5
  · refine v_tin (pc := 12) (tgt := 147) F dX10_lookerGoes_12 (by rw [hs5]; decide) (by rw [hs5]; decide) (by rw [hs5]; rfl) (by decide) ?_
    refine v_aload_n (pc := 147) (i := 0) F dX10_lookerGoes_147 rfl rfl ?_
    refine v_iload_n (pc := 148) (i := 1) F dX10_lookerGoes_148 rfl rfl ?_
    refine v_aload_n (pc := 149) (i := 0) F dX10_lookerGoes_149 rfl rfl ?_
    refine v_iload_n (pc := 150) (i := 1) F dX10_lookerGoes_150 rfl rfl ?_
    refine v_callVI (pc := 151) (As := [_]) (rest := [_, _]) (c := 10) F mX10_shyest kX10_216 im_X10_shyest se_X10_shyest dX10_lookerGoes_151 rfl rfl (by decide) (c_X10_shyest l (by omega) _) (by decide) rfl rfl (Nat.le_of_ble_eq_true rfl) lm0 (fun x21 μ21 hp21 => ?_)
    rw [hp21.1, hp21.2]
    refine v_callVV (pc := 154) (As := [_, _]) (rest := []) (c := 10) F mX10_takes kX10_209 im_X10_takes se_X10_takes dX10_lookerGoes_154 rfl rfl (by decide) (c_X10_takesO l (by omega) ((shyO (μ.1 3 l) (μ.1 5 l) (μ.1 16) 8).2) (by first | exact fP_lt | exact lP_lt | exact lookO_lt | exact shyO_lt) _) (by decide) rfl rfl (Nat.le_of_ble_eq_true rfl) lm0 (fun μ22 hp22 => ?_)
    rw [hp22]
    refine v_return (pc := 157) F dX10_lookerGoes_157 ?_
    rw [tk_5 hs5]
  refine v_tout (pc := 12) (tgt := 158) F dX10_lookerGoes_12 (j_sw25 hs2 hs3 hs4 hs5) (by decide) ?_
  refine v_aload_n (pc := 158) (i := 0) F dX10_lookerGoes_158 rfl rfl ?_
  refine v_iload_n (pc := 159) (i := 1) F dX10_lookerGoes_159 rfl rfl ?_
  refine v_aload_n (pc := 160) (i := 0) F dX10_lookerGoes_160 rfl rfl ?_
  refine v_iload_n (pc := 161) (i := 1) F dX10_lookerGoes_161 rfl rfl ?_
  refine v_callVI (pc := 162) (As := [_]) (rest := [_, _]) (c := 10) F mX10_look kX10_213 im_X10_look se_X10_look dX10_lookerGoes_162 rfl rfl (by decide) (c_X10_look l (by omega) _) (by decide) rfl rfl (Nat.le_of_ble_eq_true rfl) lm0 (fun x23 μ23 hp23 => ?_)
  rw [hp23.1, hp23.2]
  refine v_callVV (pc := 165) (As := [_, _]) (rest := []) (c := 10) F mX10_takes kX10_209 im_X10_takes se_X10_takes dX10_lookerGoes_165 rfl rfl (by decide) (c_X10_takesO l (by omega) ((lookO (μ.1 3 l) (μ.1 5 l) (μ.1 16))) (by first | exact fP_lt | exact lP_lt | exact lookO_lt | exact shyO_lt) _) (by decide) rfl rfl (Nat.le_of_ble_eq_true rfl) lm0 (fun μ24 hp24 => ?_)
  rw [hp24]
  refine v_aload_n (pc := 168) (i := 0) F dX10_lookerGoes_168 rfl rfl ?_
  refine v_getR (pc := 169) (o := 2) F fX10_13 dX10_lookerGoes_169 rfl lm0 ?_
  refine v_topR (y := 2) rfl ?_
  refine v_iload_n (pc := 172) (i := 1) F dX10_lookerGoes_172 rfl rfl ?_
  refine v_ialdN (pc := 173) (k0 := l) F dX10_lookerGoes_173 (lm10_2 lm0) (rfl) (by omega) (by decide) ?_
  refine v_iconst (pc := 174) (v := nI 1) F dX10_lookerGoes_174 (by decide) ?_
  refine v_icmp_ne (pc := 175) (tgt := 188) F dX10_lookerGoes_175 (by decide) (fun hk1 => ?_) (fun hk1 => ?_)
  · rw [m_tkL_c (c := 2) (by decide), j_n1] at hk1
    refine v_return (pc := 188) F dX10_lookerGoes_188 ?_
    rw [tk_0 hs2 hs3 hs4 hs5 hk1]
  · rw [m_tkL_c (c := 2) (by decide), j_n1] at hk1
    refine v_aload_n (pc := 178) (i := 0) F dX10_lookerGoes_178 rfl rfl ?_
    refine v_iload_n (pc := 179) (i := 1) F dX10_lookerGoes_179 rfl rfl ?_
    refine v_aload_n (pc := 180) (i := 0) F dX10_lookerGoes_180 rfl rfl ?_
    refine v_iload_n (pc := 181) (i := 1) F dX10_lookerGoes_181 rfl rfl ?_
    refine v_callVI (pc := 182) (As := [_]) (rest := [_, _]) (c := 10) F mX10_look kX10_213 im_X10_look se_X10_look dX10_lookerGoes_182 rfl rfl (by decide) (c_X10_look l (by omega) _) (by decide) rfl rfl (Nat.le_of_ble_eq_true rfl) lm0 (fun x26 μ26 hp26 => ?_)
    rw [hp26.1, hp26.2]
    refine v_callVV (pc := 185) (As := [_, _]) (rest := []) (c := 10) F mX10_takes kX10_209 im_X10_takes se_X10_takes dX10_lookerGoes_185 rfl rfl (by decide) (c_X10_takesO l (by omega) ((lookO ((m_tkL μ l ((lookO (μ.1 3 l) (μ.1 5 l) (μ.1 16))).toList).1 3 l) ((m_tkL μ l ((lookO (μ.1 3 l) (μ.1 5 l) (μ.1 16))).toList).1 5 l) ((m_tkL μ l ((lookO (μ.1 3 l) (μ.1 5 l) (μ.1 16))).toList).1 16))) (by first | exact fP_lt | exact lP_lt | exact lookO_lt | exact shyO_lt) _) (by decide) rfl rfl (Nat.le_of_ble_eq_true rfl) lm0 (fun μ27 hp27 => ?_)
    rw [hp27]
    refine v_return (pc := 188) F dX10_lookerGoes_188 ?_
    rw [tk_1 hk1, m_tkL_c (c := 3) (by decide), m_tkL_c (c := 5) (by decide), m_tkL_16, ← m_tkL_app]
    rfl

abbrev PO (c j : Nat) : Prop := c = 17 ∨ (c = 0 ∧ j = 25)
def OR (r : Nat → Int32) (O : List Nat) : Prop := ∀ j, j < O.length → r j = nI (O.getD j 0)
theorem ordO_t {age : Nat → Int32} {S : Nat → Bool} {n : Nat} (h : S n = true) : ordO age S (n + 1) = insO age n (ordO age S n) := if_pos h
theorem ordO_f {age : Nat → Int32} {S : Nat → Bool} {n : Nat} (h : ¬ S n = true) : ordO age S (n + 1) = ordO age S n := if_neg h
theorem j_decr {i : Nat} (h : 0 < i) : nI i + Int32.ofInt (-1) = nI (i - 1) := by
  obtain ⟨j, rfl⟩ : ∃ j, i = j + 1 := ⟨i - 1, by omega⟩
  exact pk_m1 j
theorem j_dn (P : Nat → Prop) (h : ∀ i, (∀ i', i' < i → P i') → P i) : ∀ i, P i := j_dec id P h
theorem getD_mem {O : List Nat} {j : Nat} (h : j < O.length) : O.getD j 0 ∈ O := by
  rw [List.getD_eq_getElem?_getD, List.getElem?_eq_getElem h]
  exact List.getElem_mem h
theorem insP_s {age : Nat → Int32} {x : Nat} {O : List Nat} {i : Nat} (h : 0 < i) : insP age x O i = if age x < age (O.getD (i - 1) 0) then insP age x O (i - 1) else i := by
  obtain ⟨j, rfl⟩ : ∃ j, i = j + 1 := ⟨i - 1, by omega⟩
  rfl

set_option maxRecDepth 100000 in
theorem c_X10_orders (set : Int32) (n : Nat) (μ : j_M) (hn : μ.1 0 1 = nI n) (hn8 : n ≤ 8) : Ct yX10_orders cX10_orders 4 none 1 ΛM [.ref 0, .int set] μ (pV fun μ2 => Fm PO μ μ2 ∧ μ2.1 0 25 = nI (ordO (μ.1 4) (tb set) n).length ∧ OR (μ2.1 17) (ordO (μ.1 4) (tb set) n)) := by
  refine Ct.go (lo := [some (.ref 0), some (.int set), none, none]) (by decide) (Nat.le_of_ble_eq_true rfl) rfl rfl (fun X F => ?_)
  have F : Fx X cX10_orders RX10 1 none ΛM := F
  refine v_aload_n (pc := 0) (i := 0) F dX10_orders_0 rfl rfl ?_
  refine v_iconst (pc := 1) (v := nI 0) F dX10_orders_1 (by decide) ?_
  refine v_put (pc := 2) F fX10_219 dX10_orders_2 rfl rfl rfl lm0 ?_
  refine v_iconst (pc := 5) (v := nI 0) F dX10_orders_5 (by decide) ?_
  refine v_istore_n (pc := 6) (lo' := [some (.ref _), some (.int _), some (.int _), _]) F dX10_orders_6 rfl rfl (Nat.le_of_ble_eq_true rfl) rfl ?_
  refine j_up n (fun k => ∀ μ' : j_M, (Fm PO μ μ' ∧ μ'.1 0 25 = nI (ordO (μ.1 4) (tb set) k).length ∧ OR (μ'.1 17) (ordO (μ.1 4) (tb set) k)) → V X _ 7 [some (.ref 0), some (.int set), some (.int (nI k)), none] [] μ') (fun k hk ih μ' hI => ?_) 0 (Nat.zero_le _) (j_pI μ 0 25 (nI 0)) (⟨Fm.rf.pI (Or.inr ⟨rfl, rfl⟩), j_pI_at, fun j hj => absurd hj (Nat.not_lt_zero _)⟩)
  refine v_iload_n (pc := 7) (i := 2) F dX10_orders_7 rfl rfl ?_
  refine v_aload_n (pc := 8) (i := 0) F dX10_orders_8 rfl rfl ?_
  refine v_getI (pc := 9) F fX10_89 dX10_orders_9 rfl lm0 ?_
  refine v_topE ((hI.1.1 0 1 (by decide)).trans hn) ?_
  refine v_icmp_ge (pc := 12) (tgt := 97) F dX10_orders_12 (by decide) (fun h12_1 => ?_) (fun h12_1 => ?_)
  · rw [nI_leI (by omega) (by omega)] at h12_1
    refine v_return (pc := 97) F dX10_orders_97 ?_
    have e : k = n := by omega
    subst e
    exact hI
  · rw [nI_leI (by omega) (by omega)] at h12_1
    refine v_iload_n (pc := 15) (i := 1) F dX10_orders_15 rfl rfl ?_
    refine v_iload_n (pc := 16) (i := 2) F dX10_orders_16 rfl rfl ?_
    refine v_callSI (pc := 17) (As := [_, _]) (rest := []) F mX10_in kX10_194 sm_X10_in dX10_orders_17 (c_X10_inN _ k (by omega) _) (by decide) rfl rfl (Nat.le_of_ble_eq_true rfl) (fun x2 μ2 hp2 => ?_)
    rw [hp2.1, hp2.2]
    refine v_if_ne (pc := 20) (tgt := 26) F dX10_orders_20 (by decide) (fun hc => ?_) (fun hc => ?_)
    · rw [b2i_0] at hc
      rw [Classical.not_not] at hc
      obtain ⟨O, hO⟩ : ∃ O, O = ordO (μ.1 4) (tb set) k := ⟨_, rfl⟩
      rw [← hO] at hI
      have hOl : O.length ≤ k := by rw [hO, ordO_len]; exact cK_le _ _
      have hOm : ∀ j, j < O.length → O.getD j 0 < k := fun j hj => (ordO_mem.mp (by rw [← hO]; exact getD_mem hj : O.getD j 0 ∈ ordO (μ.1 4) (tb set) k)).1
      refine v_aload_n (pc := 26) (i := 0) F dX10_orders_26 rfl rfl ?_
      refine v_dup (pc := 27) F dX10_orders_27 rfl ?_
      refine v_getI (pc := 28) F fX10_219 dX10_orders_28 rfl lm0 ?_
      refine v_topE (hI.2.1) ?_
      refine v_dup_x1 (pc := 31) F dX10_orders_31 rfl rfl ?_
      refine v_iconst (pc := 32) (v := nI 1) F dX10_orders_32 (by decide) ?_
      refine v_iadd (pc := 33) F dX10_orders_33 ?_
      refine v_topE (nI_add _ _) ?_
      refine v_put (pc := 34) F fX10_219 dX10_orders_34 rfl rfl rfl lm0 ?_
      refine v_istore_n (pc := 37) (lo' := [some (.ref _), some (.int _), some (.int _), some (.int _)]) F dX10_orders_37 rfl rfl (Nat.le_of_ble_eq_true rfl) rfl ?_
      refine j_dn (fun i => ∀ μ'' : j_M, (Fm PO μ μ'' ∧ μ''.1 0 25 = nI (O.length + 1) ∧ i ≤ O.length ∧ (∀ j, j < i → μ''.1 17 j = nI (O.getD j 0)) ∧ (∀ j, i < j → j ≤ O.length → μ''.1 17 j = nI (O.getD (j - 1) 0)) ∧ insP (μ.1 4) k O O.length = insP (μ.1 4) k O i) → V X _ 38 [some (.ref 0), some (.int set), some (.int (nI k)), some (.int (nI i))] [] μ'') (fun i ih2 μ'' hJ => ?_) O.length (j_pI μ' 0 25 (nI (O.length + 1))) ⟨hI.1.pI (Or.inr ⟨rfl, rfl⟩), j_pI_at, Nat.le_refl _, fun j hj => by rw [j_pI_off (by omega)]; exact hI.2.2 j hj, fun j h1 h2 => absurd h1 (by omega), rfl⟩
      have h4 : μ''.1 4 = μ.1 4 := by funext j; exact hJ.1.1 4 j (by omega)
      have hi8 := hJ.2.2.1
      refine v_iload_n (pc := 38) (i := 3) F dX10_orders_38 rfl rfl ?_
      refine v_if_le (pc := 39) (tgt := 84) F dX10_orders_39 (by decide) (fun hi => ?_) (fun hi => ?_)
      · rw [j_le0 (by omega)] at hi
        refine v_aload_n (pc := 84) (i := 0) F dX10_orders_84 rfl rfl ?_
        refine v_getR (pc := 85) (o := 17) F fX10_59 dX10_orders_85 rfl lm0 ?_
        refine v_topR (y := 17) rfl ?_
        refine v_iload_n (pc := 88) (i := 3) F dX10_orders_88 rfl rfl ?_
        refine v_iload_n (pc := 89) (i := 2) F dX10_orders_89 rfl rfl ?_
        refine v_iastN (pc := 90) (k0 := i) F dX10_orders_90 (lm10_26 lm0) (rfl) (by omega) (by decide) ?_
        refine v_iinc (pc := 91) (i := 2) (v := nI (k + 1)) (lo' := [some (.ref _), some (.int _), some (.int _), some (.int _)]) F dX10_orders_91 rfl (j_inc _) rfl rfl ?_
        refine v_goto (pc := 94) (tgt := 7) F dX10_orders_94 (by decide) ?_
        refine v_drop (i := 3) (lo' := [some (.ref _), some (.int _), some (.int _), _]) rfl ?_
        have hp : insP (μ.1 4) k O O.length = i := by
          rw [hJ.2.2.2.2.2]
          first | (subst hi; rfl) | (rw [insP_s (by omega), ← h4]; exact if_neg (Int32.not_lt.mpr ha))
        refine ih (by omega) (j_pI μ'' 17 i (nI k)) ⟨hJ.1.pI (Or.inl rfl), ?_, ?_⟩
        · rw [ordO_t hc, ← hO, insO_len, j_pI_off (by omega)]; exact hJ.2.1
        · rw [ordO_t hc, ← hO]
          intro j hj
          rw [insO_len] at hj
          rw [insO_get hp j (by omega)]
          by_cases e : j = i
          · subst e; rw [j_pI_at, if_neg (by omega), if_pos rfl]
          · rw [j_pI_off (by omega)]
            by_cases e2 : j < i
            · rw [if_pos e2]; exact hJ.2.2.2.1 j e2
            · rw [if_neg e2, if_neg e]; exact hJ.2.2.2.2.1 j (by omega) (by omega)
      · rw [j_le0 (by omega)] at hi
        refine v_aload_n (pc := 42) (i := 0) F dX10_orders_42 rfl rfl ?_
        refine v_getR (pc := 43) (o := 4) F fX10_19 dX10_orders_43 rfl lm0 ?_
        refine v_topR (y := 4) rfl ?_
        refine v_aload_n (pc := 46) (i := 0) F dX10_orders_46 rfl rfl ?_
        refine v_getR (pc := 47) (o := 17) F fX10_59 dX10_orders_47 rfl lm0 ?_
        refine v_topR (y := 17) rfl ?_
        refine v_iload_n (pc := 50) (i := 3) F dX10_orders_50 rfl rfl ?_
        refine v_iconst (pc := 51) (v := nI 1) F dX10_orders_51 (by decide) ?_
        refine v_isub (pc := 52) F dX10_orders_52 ?_
        refine v_topE (pk_sub (by omega)) ?_
        refine v_ialdN (pc := 53) (k0 := i - 1) F dX10_orders_53 (lm10_26 lm0) (rfl) (by omega) (by decide) ?_
        refine v_topE (y := nI (O.getD (i - 1) 0)) (hJ.2.2.2.1 (i - 1) (by omega)) ?_
        refine v_ialdN (pc := 54) (k0 := O.getD (i - 1) 0) F dX10_orders_54 (lm10_4 lm0) (rfl) (by have := hOm (i - 1) (by omega); omega) (by decide) ?_
        refine v_aload_n (pc := 55) (i := 0) F dX10_orders_55 rfl rfl ?_
        refine v_getR (pc := 56) (o := 4) F fX10_19 dX10_orders_56 rfl lm0 ?_
        refine v_topR (y := 4) rfl ?_
        refine v_iload_n (pc := 59) (i := 2) F dX10_orders_59 rfl rfl ?_
        refine v_ialdN (pc := 60) (k0 := k) F dX10_orders_60 (lm10_4 lm0) (rfl) (by omega) (by decide) ?_
        refine v_icmp_le (pc := 61) (tgt := 84) F dX10_orders_61 (by decide) (fun ha => ?_) (fun ha => ?_)
        · skip
          refine v_aload_n (pc := 84) (i := 0) F dX10_orders_84 rfl rfl ?_
          refine v_getR (pc := 85) (o := 17) F fX10_59 dX10_orders_85 rfl lm0 ?_
          refine v_topR (y := 17) rfl ?_
          refine v_iload_n (pc := 88) (i := 3) F dX10_orders_88 rfl rfl ?_
          refine v_iload_n (pc := 89) (i := 2) F dX10_orders_89 rfl rfl ?_
          refine v_iastN (pc := 90) (k0 := i) F dX10_orders_90 (lm10_26 lm0) (rfl) (by omega) (by decide) ?_
          refine v_iinc (pc := 91) (i := 2) (v := nI (k + 1)) (lo' := [some (.ref _), some (.int _), some (.int _), some (.int _)]) F dX10_orders_91 rfl (j_inc _) rfl rfl ?_
          refine v_goto (pc := 94) (tgt := 7) F dX10_orders_94 (by decide) ?_
          refine v_drop (i := 3) (lo' := [some (.ref _), some (.int _), some (.int _), _]) rfl ?_
          have hp : insP (μ.1 4) k O O.length = i := by
            rw [hJ.2.2.2.2.2]
            first | (subst hi; rfl) | (rw [insP_s (by omega), ← h4]; exact if_neg (Int32.not_lt.mpr ha))
          refine ih (by omega) (j_pI μ'' 17 i (nI k)) ⟨hJ.1.pI (Or.inl rfl), ?_, ?_⟩
          · rw [ordO_t hc, ← hO, insO_len, j_pI_off (by omega)]; exact hJ.2.1
          · rw [ordO_t hc, ← hO]
            intro j hj
            rw [insO_len] at hj
            rw [insO_get hp j (by omega)]
            by_cases e : j = i
            · subst e; rw [j_pI_at, if_neg (by omega), if_pos rfl]
            · rw [j_pI_off (by omega)]
              by_cases e2 : j < i
              · rw [if_pos e2]; exact hJ.2.2.2.1 j e2
              · rw [if_neg e2, if_neg e]; exact hJ.2.2.2.2.1 j (by omega) (by omega)
        · skip
          refine v_aload_n (pc := 64) (i := 0) F dX10_orders_64 rfl rfl ?_
          refine v_getR (pc := 65) (o := 17) F fX10_59 dX10_orders_65 rfl lm0 ?_
          refine v_topR (y := 17) rfl ?_
          refine v_iload_n (pc := 68) (i := 3) F dX10_orders_68 rfl rfl ?_
          refine v_aload_n (pc := 69) (i := 0) F dX10_orders_69 rfl rfl ?_
          refine v_getR (pc := 70) (o := 17) F fX10_59 dX10_orders_70 rfl lm0 ?_
          refine v_topR (y := 17) rfl ?_
          refine v_iload_n (pc := 73) (i := 3) F dX10_orders_73 rfl rfl ?_
          refine v_iconst (pc := 74) (v := nI 1) F dX10_orders_74 (by decide) ?_
          refine v_isub (pc := 75) F dX10_orders_75 ?_
          refine v_topE (pk_sub (by omega)) ?_
          refine v_ialdN (pc := 76) (k0 := i - 1) F dX10_orders_76 (lm10_26 lm0) (rfl) (by omega) (by decide) ?_
          refine v_topE (y := nI (O.getD (i - 1) 0)) (hJ.2.2.2.1 (i - 1) (by omega)) ?_
          refine v_iastN (pc := 77) (k0 := i) F dX10_orders_77 (lm10_26 lm0) (rfl) (by omega) (by decide) ?_
          refine v_iinc (pc := 78) (i := 3) (v := nI (i - 1)) (lo' := [some (.ref _), some (.int _), some (.int _), some (.int _)]) F dX10_orders_78 rfl (j_decr (by omega)) rfl rfl ?_
          refine v_goto (pc := 81) (tgt := 38) F dX10_orders_81 (by decide) ?_
          refine ih2 (i - 1) (by omega) _ ⟨hJ.1.pI (Or.inl rfl), ?_, by omega, ?_, ?_, ?_⟩
          · rw [j_pI_off (by omega)]; exact hJ.2.1
          · intro j hj; rw [j_pI_off (by omega)]; exact hJ.2.2.2.1 j (by omega)
          · intro j h1 h2
            by_cases e : j = i
            · subst e; rw [j_pI_at]
            · rw [j_pI_off (by omega)]; exact hJ.2.2.2.2.1 j (by omega) h2
          · rw [hJ.2.2.2.2.2, insP_s (by omega), ← h4]
            exact if_pos (Int32.not_le.mp ha)
    · rw [b2i_0] at hc
      refine v_goto (pc := 23) (tgt := 91) F dX10_orders_23 (by decide) ?_
      refine v_iinc (pc := 91) (i := 2) (v := nI (k + 1)) (lo' := [some (.ref _), some (.int _), some (.int _), _]) F dX10_orders_91 rfl (j_inc _) rfl rfl ?_
      refine v_goto (pc := 94) (tgt := 7) F dX10_orders_94 (by decide) ?_
      refine ih (by omega) μ' ?_
      rw [ordO_f hc]
      exact hI
