/-! the reference: things to set out -/
def wth (w : Nat → Nat → Int32) (p : Nat) (v : Int32) : Nat → Nat → Int32 := fun c j => if c = 1 ∧ j = p then v else w c j
def fem (t : Nat → Int32) : Option Nat := fP (fun p => t p == -1)
def fsK (S : Nat → Bool) (f : Nat → Option (List Nat)) : Nat → Option (List Nat)
  | 0 => none
  | k + 1 => match fsK S f k with
    | some L => some L
    | none => if S k = true then (match f k with
      | none => none
      | some L => some (k :: L)) else none
theorem fsK_n1 {S : Nat → Bool} {f : Nat → Option (List Nat)} {k : Nat} (h : fsK S f k = none) (h2 : f k = none) : fsK S f (k + 1) = none := by
  simp only [fsK, h, h2]
  split <;> rfl
theorem fsK_n2 {S : Nat → Bool} {f : Nat → Option (List Nat)} {k : Nat} (h : fsK S f k = none) (h2 : ¬ S k = true) : fsK S f (k + 1) = none := by
  simp only [fsK, h]
  rw [if_neg h2]
theorem fsK_s {S : Nat → Bool} {f : Nat → Option (List Nat)} {k : Nat} {L : List Nat} (h : fsK S f k = none) (h1 : S k = true) (h2 : f k = some L) : fsK S f (k + 1) = some (k :: L) := by
  simp only [fsK, h, h2]
  rw [if_pos h1]
theorem fsK_u {S : Nat → Bool} {f : Nat → Option (List Nat)} {k : Nat} {L : List Nat} (h : fsK S f k = some L) : ∀ m, fsK S f (k + m) = some L := by
  intro m
  induction m with
  | zero => exact h
  | succ m ih => rw [← Nat.add_assoc]; simp only [fsK, ih]
theorem fsK_up {S : Nat → Bool} {f : Nat → Option (List Nat)} {k m : Nat} {L : List Nat} (h : fsK S f k = some L) (hm : k ≤ m) : fsK S f m = some L := by
  have := fsK_u h (m - k)
  rwa [show k + (m - k) = m by omega] at this
def poS (n : Nat) (set sorts : Int32) : Nat → (Nat → Nat → Int32) → Option (List Nat)
  | 0, w => if nI (gnE w n set) = jbc set then some [] else none
  | r + 1, w => match fem (w 1) with
    | none => none
    | some p => fsK (tb sorts) (fun s => poS n set sorts r (wth w p (nI s))) 8
theorem poS_n {n r : Nat} {set sorts : Int32} {w : Nat → Nat → Int32} (h : fem (w 1) = none) : poS n set sorts (r + 1) w = none := by simp only [poS, h]
theorem poS_s {n r p : Nat} {set sorts : Int32} {w : Nat → Nat → Int32} (h : fem (w 1) = some p) : poS n set sorts (r + 1) w = fsK (tb sorts) (fun s => poS n set sorts r (wth w p (nI s))) 8 := by simp only [poS, h]
abbrev PM (i c j : Nat) : Prop := PB c j ∨ (c = 23 ∧ i ≤ j)
def POR (o : Option (List Nat)) (i : Nat) (μ : j_M) (x : Int32) (μ2 : j_M) : Prop := Fm (PM i) μ μ2 ∧ match o with
  | none => x = 0
  | some L => x = 1 ∧ ∀ k, k < L.length → μ2.1 23 (i + k) = nI (L.getD k 0)
theorem Fm_fix {P : Nat → Nat → Prop} {μ m : j_M} {p : Nat} {v : Int32} (h : Fm (fun c j => P c j ∨ (c = 1 ∧ j = p)) μ m) (hv : μ.1 1 p = v) : Fm P μ (j_pI m 1 p v) := ⟨fun c j q => by
  by_cases e : c = 1 ∧ j = p
  · obtain ⟨rfl, rfl⟩ := e
    rw [j_pI_at, hv]
  · rw [j_pI_off e]
    exact h.1 c j (fun z => z.elim q e), h.2⟩
theorem RW_th {w : Nat → Nat → Int32} {n p : Nat} {μ m : j_M} {v : Int32} (h : RW w n μ) (hf : ∀ c, 1 < c → c ≤ 5 → m.1 c = μ.1 c) (h1 : ∀ j, ¬ j = p → m.1 1 j = μ.1 1 j) (hp : m.1 1 p = v) (h0 : m.1 0 1 = μ.1 0 1) : RW (wth w p v) n m := by
  refine ⟨fun c h2 h3 => ?_, h0.trans h.2⟩
  funext j
  show _ = if c = 1 ∧ j = p then v else w c j
  by_cases e : c = 1 ∧ j = p
  · obtain ⟨rfl, rfl⟩ := e
    rw [if_pos ⟨rfl, rfl⟩, hp]
  · rw [if_neg e]
    by_cases e1 : c = 1
    · subst e1
      rw [h1 j (fun z => e ⟨rfl, z⟩), h.1 1 (by omega) (by omega)]
    · rw [hf c (by omega) h3, h.1 c h2 h3]

set_option maxRecDepth 100000 in
theorem c_X10_putsOut0 (n : Nat) (set sorts : Int32) (i : Nat) (hn8 : n ≤ 8) (w : Nat → Nat → Int32) (μ : j_M) (hw : RW w n μ) (ho : ∀ l, l < n → ¬ w 3 l = -1) (hi : i ≤ 3) : Ct yX10_putsOut cX10_putsOut 8 (some .boolean) 6 ΛM [.ref 0, .int set, .int (nI i), .int (nI i), .int sorts] μ (pI fun x μ2 => POR (poS n set sorts 0 w) i μ x μ2) := by
  refine Ct.go (lo := [some (.ref 0), some (.int set), some (.int (nI i)), some (.int (nI i)), some (.int sorts), none, none, none]) (by decide) (Nat.le_of_ble_eq_true rfl) rfl rfl (fun X F => ?_)
  have F : Fx X cX10_putsOut RX10 6 (some .boolean) ΛM := F
  refine v_iload_n (pc := 0) (i := 2) F dX10_putsOut_0 rfl rfl ?_
  refine v_iload_n (pc := 1) (i := 3) F dX10_putsOut_1 rfl rfl ?_
  refine v_icmp_ne (pc := 2) (tgt := 23) F dX10_putsOut_2 (by decide) (fun h2_1 => ?_) (fun h2_1 => ?_)
  · rw [nI_eq (by omega) (by omega)] at h2_1
    exact absurd rfl h2_1
  · rw [nI_eq (by omega) (by omega)] at h2_1
    refine v_aload_n (pc := 5) (i := 0) F dX10_putsOut_5 rfl rfl ?_
    refine v_iload_n (pc := 6) (i := 1) F dX10_putsOut_6 rfl rfl ?_
    refine v_callVI (pc := 7) (As := [_]) (rest := []) (c := 10) F mX10_gladOf kX10_240 im_X10_gladOf se_X10_gladOf dX10_putsOut_7 rfl rfl (by decide) (c_X10_gladOf set n w _ hw hn8 ho _ rfl) (by decide) rfl rfl (Nat.le_of_ble_eq_true rfl) lm0 (fun x2 μ2 hp2 => ?_)
    obtain ⟨hq1, hq2, hq3⟩ := hp2
    rw [hq1]
    refine v_iload_n (pc := 10) (i := 1) F dX10_putsOut_10 rfl rfl ?_
    refine v_callSI (pc := 11) (As := [_]) (rest := [_]) F mJ6_bitCount_0f7a4 kX10_243 sm_J6_bitCount_0f7a4 dX10_putsOut_11 (c_J6_bc _ _ _) (by decide) rfl rfl (Nat.le_of_ble_eq_true rfl) (fun x3 μ3 hp3 => ?_)
    rw [hp3.1, hp3.2]
    refine v_icmp_ne (pc := 14) (tgt := 21) F dX10_putsOut_14 (by decide) (fun hc => ?_) (fun hc => ?_)
    · skip
      refine v_iconst (pc := 21) (v := nI 0) F dX10_putsOut_21 (by decide) ?_
      refine v_ireturn (pc := 22) F dX10_putsOut_22 (rfl) ?_
      refine ⟨hq2.mono (fun c j z => Or.inl z), ?_⟩
      simp only [poS]
      rw [if_neg (show ¬ nI (gnE w n set) = jbc set from hc)]
      rfl
    · skip
      refine v_iconst (pc := 17) (v := nI 1) F dX10_putsOut_17 (by decide) ?_
      refine v_goto (pc := 18) (tgt := 22) F dX10_putsOut_18 (by decide) ?_
      refine v_ireturn (pc := 22) F dX10_putsOut_22 (rfl) ?_
      refine ⟨hq2.mono (fun c j z => Or.inl z), ?_⟩
      simp only [poS]
      rw [if_pos (show nI (gnE w n set) = jbc set from hc)]
      exact ⟨rfl, fun k hk => absurd hk (Nat.not_lt_zero _)⟩

set_option maxRecDepth 100000 in
theorem c_X10_putsOutS (n : Nat) (set sorts : Int32) (r i len : Nat) (hn8 : n ≤ 8) (hir : i + (r + 1) = len) (hl3 : len ≤ 3) (ihr : ∀ (w : Nat → Nat → Int32) (μ : j_M), RW w n μ → (∀ l, l < n → ¬ w 3 l = -1) → Ct yX10_putsOut cX10_putsOut 8 (some .boolean) (6 + r) ΛM [.ref 0, .int set, .int (nI (i + 1)), .int (nI len), .int sorts] μ (pI fun x μ2 => POR (poS n set sorts r w) (i + 1) μ x μ2)) (w : Nat → Nat → Int32) (μ : j_M) (hw : RW w n μ) (ho : ∀ l, l < n → ¬ w 3 l = -1) : Ct yX10_putsOut cX10_putsOut 8 (some .boolean) (6 + (r + 1)) ΛM [.ref 0, .int set, .int (nI i), .int (nI len), .int sorts] μ (pI fun x μ2 => POR (poS n set sorts (r + 1) w) i μ x μ2) := by
  refine Ct.go (lo := [some (.ref 0), some (.int set), some (.int (nI i)), some (.int (nI len)), some (.int sorts), none, none, none]) (by decide) (Nat.le_of_ble_eq_true rfl) rfl rfl (fun X F => ?_)
  have F : Fx X cX10_putsOut RX10 (6 + (r + 1)) (some .boolean) ΛM := F
  refine v_iload_n (pc := 0) (i := 2) F dX10_putsOut_0 rfl rfl ?_
  refine v_iload_n (pc := 1) (i := 3) F dX10_putsOut_1 rfl rfl ?_
  refine v_icmp_ne (pc := 2) (tgt := 23) F dX10_putsOut_2 (by decide) (fun h2_1 => ?_) (fun h2_1 => ?_)
  · rw [nI_eq (by omega) (by omega)] at h2_1
    refine v_iconst (pc := 23) (v := nI 0) F dX10_putsOut_23 (by decide) ?_
    refine v_istore (pc := 24) (lo' := [some (.ref _), some (.int _), some (.int _), some (.int _), some (.int _), some (.int _), _, _]) F dX10_putsOut_24 rfl (Nat.le_of_ble_eq_true rfl) rfl ?_
    refine j_up 12 (fun k => (∀ j, j < k → ¬ w 1 j = -1) → V X _ 26 [some (.ref 0), some (.int set), some (.int (nI i)), some (.int (nI len)), some (.int sorts), some (.int (nI k)), none, none] [] μ) (fun k hk ih hI => ?_) 0 (Nat.zero_le _) (fun j hj => absurd hj (Nat.not_lt_zero _))
    refine v_iload (pc := 26) (i := 5) F dX10_putsOut_26 rfl ?_
    refine v_bipush (pc := 28) (v := nI 12) F dX10_putsOut_28 (by decide) ?_
    refine v_icmp_ge (pc := 30) (tgt := 50) F dX10_putsOut_30 (by decide) (fun hg => ?_) (fun hg => ?_)
    · rw [nI_leI (by omega) (by omega)] at hg
      have e12 : k = 12 := by omega
      subst e12
      refine v_iload (pc := 50) (i := 5) F dX10_putsOut_50 rfl ?_
      refine v_bipush (pc := 52) (v := nI 12) F dX10_putsOut_52 (by decide) ?_
      refine v_icmp_ne (pc := 54) (tgt := 59) F dX10_putsOut_54 (by decide) (fun h54_3 => ?_) (fun h54_3 => ?_)
      · rw [nI_eq (by omega) (by omega)] at h54_3
        exact absurd h54_3 (by decide)
      · rw [nI_eq (by omega) (by omega)] at h54_3
        refine v_iconst (pc := 57) (v := nI 0) F dX10_putsOut_57 (by decide) ?_
        refine v_ireturn (pc := 58) F dX10_putsOut_58 (rfl) ?_
        have e1 : poS n set sorts (r + 1) w = none := poS_n (fP_none (fun j hj => by simpa using hI j hj))
        unfold POR
        rw [e1]
        exact ⟨Fm.rf, rfl⟩
    · rw [nI_leI (by omega) (by omega)] at hg
      refine v_aload_n (pc := 33) (i := 0) F dX10_putsOut_33 rfl rfl ?_
      refine v_getR (pc := 34) (o := 1) F fX10_9 dX10_putsOut_34 rfl lm0 ?_
      refine v_topR (y := 1) rfl ?_
      refine v_iload (pc := 37) (i := 5) F dX10_putsOut_37 rfl ?_
      refine v_ialdN (pc := 39) (k0 := k) F dX10_putsOut_39 (lm10_0 lm0) (rfl) (by omega) (by decide) ?_
      refine v_iconst (pc := 40) (v := (-1)) F dX10_putsOut_40 (by decide) ?_
      refine v_icmp_eq (pc := 41) (tgt := 50) F dX10_putsOut_41 (by decide) (fun he => ?_) (fun he => ?_)
      · rw [hw.1 1 (by omega) (by omega)] at he
        refine v_iload (pc := 50) (i := 5) F dX10_putsOut_50 rfl ?_
        refine v_bipush (pc := 52) (v := nI 12) F dX10_putsOut_52 (by decide) ?_
        refine v_icmp_ne (pc := 54) (tgt := 59) F dX10_putsOut_54 (by decide) (fun h54_5 => ?_) (fun h54_5 => ?_)
        · rw [nI_eq (by omega) (by omega)] at h54_5
          have hfe : fem (w 1) = some k := fP_some (by omega) (by simpa using he) (fun j hj => by simpa using hI j hj)
          have hwk : μ.1 1 k = -1 := by rw [hw.1 1 (by omega) (by omega)]; exact he
          refine v_iconst (pc := 59) (v := nI 0) F dX10_putsOut_59 (by decide) ?_
          refine v_istore (pc := 60) (lo' := [some (.ref _), some (.int _), some (.int _), some (.int _), some (.int _), some (.int _), some (.int _), _]) F dX10_putsOut_60 rfl (Nat.le_of_ble_eq_true rfl) rfl ?_
          refine v_iconst (pc := 62) (v := nI 0) F dX10_putsOut_62 (by decide) ?_
          refine v_istore (pc := 63) (lo' := [some (.ref _), some (.int _), some (.int _), some (.int _), some (.int _), some (.int _), some (.int _), some (.int _)]) F dX10_putsOut_63 rfl (Nat.le_of_ble_eq_true rfl) rfl ?_
          refine j_up 8 (fun s => ∀ μ' : j_M, (Fm (fun c j => PM i c j ∨ (c = 1 ∧ j = k)) μ μ' ∧ fsK (tb sorts) (fun s => poS n set sorts r (wth w k (nI s))) s = none) → V X _ 65 [some (.ref 0), some (.int set), some (.int (nI i)), some (.int (nI len)), some (.int sorts), some (.int (nI k)), some (.int (nI 0)), some (.int (nI s))] [] μ') (fun s hs ihs μ' hJ => ?_) 0 (Nat.zero_le _) μ (⟨Fm.rf, rfl⟩)
          refine v_iload (pc := 65) (i := 7) F dX10_putsOut_65 rfl ?_
          refine v_bipush (pc := 67) (v := nI 8) F dX10_putsOut_67 (by decide) ?_
          refine v_icmp_ge (pc := 69) (tgt := 126) F dX10_putsOut_69 (by decide) (fun h69_6 => ?_) (fun h69_6 => ?_)
          · rw [nI_leI (by omega) (by omega)] at h69_6
            refine v_aload_n (pc := 126) (i := 0) F dX10_putsOut_126 rfl rfl ?_
            refine v_getR (pc := 127) (o := 1) F fX10_9 dX10_putsOut_127 rfl lm0 ?_
            refine v_topR (y := 1) rfl ?_
            refine v_iload (pc := 130) (i := 5) F dX10_putsOut_130 rfl ?_
            refine v_iconst (pc := 132) (v := (-1)) F dX10_putsOut_132 (by decide) ?_
            refine v_iastN (pc := 133) (k0 := k) F dX10_putsOut_133 (lm10_0 lm0) (rfl) (by omega) (by decide) ?_
            refine v_iload (pc := 134) (i := 6) F dX10_putsOut_134 rfl ?_
            refine v_ireturn (pc := 136) F dX10_putsOut_136 (rfl) ?_
            have e8 : s = 8 := by omega
            subst e8
            have e1 : poS n set sorts (r + 1) w = none := (poS_s hfe).trans hJ.2
            unfold POR
            rw [e1]
            exact ⟨Fm_fix hJ.1 hwk, rfl⟩
          · rw [nI_leI (by omega) (by omega)] at h69_6
            refine v_iload (pc := 72) (i := 6) F dX10_putsOut_72 rfl ?_
            refine v_if_ne (pc := 74) (tgt := 126) F dX10_putsOut_74 (by decide) (fun h74_7 => ?_) (fun h74_7 => ?_)
            · rw [j_eq0 (by omega)] at h74_7
              exact absurd h74_7 (by decide)
            · rw [j_eq0 (by omega)] at h74_7
              refine v_iload (pc := 77) (i := 4) F dX10_putsOut_77 rfl ?_
              refine v_iload (pc := 79) (i := 7) F dX10_putsOut_79 rfl ?_
              refine v_callSI (pc := 81) (As := [_, _]) (rest := []) F mX10_in kX10_194 sm_X10_in dX10_putsOut_81 (c_X10_inN _ s (by omega) _) (by omega) rfl rfl (Nat.le_of_ble_eq_true rfl) (fun x8 μ8 hp8 => ?_)
              rw [hp8.1, hp8.2]
              refine v_if_ne (pc := 84) (tgt := 90) F dX10_putsOut_84 (by decide) (fun hin => ?_) (fun hin => ?_)
              · rw [b2i_0] at hin
                rw [Classical.not_not] at hin
                refine v_aload_n (pc := 90) (i := 0) F dX10_putsOut_90 rfl rfl ?_
                refine v_getR (pc := 91) (o := 23) F fX10_78 dX10_putsOut_91 rfl lm0 ?_
                refine v_topR (y := 23) rfl ?_
                refine v_iload_n (pc := 94) (i := 2) F dX10_putsOut_94 rfl rfl ?_
                refine v_iload (pc := 95) (i := 7) F dX10_putsOut_95 rfl ?_
                refine v_iastN (pc := 97) (k0 := i) F dX10_putsOut_97 (lm10_32 lm0) (rfl) (by omega) (by decide) ?_
                refine v_aload_n (pc := 98) (i := 0) F dX10_putsOut_98 rfl rfl ?_
                refine v_getR (pc := 99) (o := 1) F fX10_9 dX10_putsOut_99 rfl lm0 ?_
                refine v_topR (y := 1) rfl ?_
                refine v_iload (pc := 102) (i := 5) F dX10_putsOut_102 rfl ?_
                refine v_iload (pc := 104) (i := 7) F dX10_putsOut_104 rfl ?_
                refine v_iastN (pc := 106) (k0 := k) F dX10_putsOut_106 (lm10_0 lm0) (rfl) (by omega) (by decide) ?_
                refine v_aload_n (pc := 107) (i := 0) F dX10_putsOut_107 rfl rfl ?_
                refine v_iload_n (pc := 108) (i := 1) F dX10_putsOut_108 rfl rfl ?_
                refine v_iload_n (pc := 109) (i := 2) F dX10_putsOut_109 rfl rfl ?_
                refine v_iconst (pc := 110) (v := nI 1) F dX10_putsOut_110 (by decide) ?_
                refine v_iadd (pc := 111) F dX10_putsOut_111 ?_
                refine v_topE (nI_add _ _) ?_
                refine v_iload_n (pc := 112) (i := 3) F dX10_putsOut_112 rfl rfl ?_
                refine v_iload (pc := 113) (i := 4) F dX10_putsOut_113 rfl ?_
                have hrs : RW (wth w k (nI s)) n (j_pI (j_pI μ' 23 i (nI s)) 1 k (nI s)) := RW_th hw (fun c z1 z2 => funext fun j => (j_pI_off (by omega)).trans ((j_pI_off (by omega)).trans (hJ.1.1 c j (by omega)))) (fun j z => (j_pI_off (by omega)).trans ((j_pI_off (by omega)).trans (hJ.1.1 1 j (by omega)))) j_pI_at ((j_pI_off (by omega)).trans ((j_pI_off (by omega)).trans (hJ.1.1 0 1 (by omega))))
                refine v_callVI (pc := 115) (As := [_, _, _, _]) (rest := []) (c := 10) F mX10_putsOut kX10_248 im_X10_putsOut se_X10_putsOut dX10_putsOut_115 rfl rfl (by decide) (ihr (wth w k (nI s)) _ hrs (fun l hl => ho l hl)) (by omega) rfl rfl (Nat.le_of_ble_eq_true rfl) lm0 (fun x10 μ10 hp10 => ?_)
                skip
                rcases hq : poS n set sorts r (wth w k (nI s)) with _ | L
                · skip
                  rw [hq] at hp10
                  obtain ⟨q1, q2⟩ := hp10
                  refine v_topE (y := nI 0) q2 ?_
                  refine v_istore (pc := 118) (lo' := [some (.ref _), some (.int _), some (.int _), some (.int _), some (.int _), some (.int _), some (.int _), some (.int _)]) F dX10_putsOut_118 rfl (Nat.le_of_ble_eq_true rfl) rfl ?_
                  refine v_iinc (pc := 120) (i := 7) (v := nI (s + 1)) (lo' := [some (.ref _), some (.int _), some (.int _), some (.int _), some (.int _), some (.int _), some (.int _), some (.int _)]) F dX10_putsOut_120 rfl (j_inc _) rfl rfl ?_
                  refine v_goto (pc := 123) (tgt := 65) F dX10_putsOut_123 (by decide) ?_
                  refine ihs (by omega) _ ⟨?_, fsK_n1 hJ.2 hq⟩
                  exact ((hJ.1.pI (Or.inl (Or.inr ⟨rfl, Nat.le_refl _⟩))).pI (Or.inr ⟨rfl, rfl⟩)).tr (q1.mono (fun c j z => by omega))
                · skip
                  rw [hq] at hp10
                  obtain ⟨q1, q2, q3⟩ := hp10
                  refine v_topE (y := nI 1) q2 ?_
                  refine v_istore (pc := 118) (lo' := [some (.ref _), some (.int _), some (.int _), some (.int _), some (.int _), some (.int _), some (.int _), some (.int _)]) F dX10_putsOut_118 rfl (Nat.le_of_ble_eq_true rfl) rfl ?_
                  refine v_iinc (pc := 120) (i := 7) (v := nI (s + 1)) (lo' := [some (.ref _), some (.int _), some (.int _), some (.int _), some (.int _), some (.int _), some (.int _), some (.int _)]) F dX10_putsOut_120 rfl (j_inc _) rfl rfl ?_
                  refine v_goto (pc := 123) (tgt := 65) F dX10_putsOut_123 (by decide) ?_
                  refine v_iload (pc := 65) (i := 7) F dX10_putsOut_65 rfl ?_
                  refine v_bipush (pc := 67) (v := nI 8) F dX10_putsOut_67 (by decide) ?_
                  refine v_icmp_ge (pc := 69) (tgt := 126) F dX10_putsOut_69 (by decide) (fun h69_11 => ?_) (fun h69_11 => ?_)
                  · rw [nI_leI (by omega) (by omega)] at h69_11
                    refine v_aload_n (pc := 126) (i := 0) F dX10_putsOut_126 rfl rfl ?_
                    refine v_getR (pc := 127) (o := 1) F fX10_9 dX10_putsOut_127 rfl lm0 ?_
                    refine v_topR (y := 1) rfl ?_
                    refine v_iload (pc := 130) (i := 5) F dX10_putsOut_130 rfl ?_
                    refine v_iconst (pc := 132) (v := (-1)) F dX10_putsOut_132 (by decide) ?_
                    refine v_iastN (pc := 133) (k0 := k) F dX10_putsOut_133 (lm10_0 lm0) (rfl) (by omega) (by decide) ?_
                    refine v_iload (pc := 134) (i := 6) F dX10_putsOut_134 rfl ?_
                    refine v_ireturn (pc := 136) F dX10_putsOut_136 (rfl) ?_
                    have e1 : poS n set sorts (r + 1) w = some (s :: L) := (poS_s hfe).trans (fsK_up (fsK_s hJ.2 hin hq) (by omega))
                    unfold POR
                    rw [e1]
                    refine ⟨Fm_fix (((hJ.1.pI (Or.inl (Or.inr ⟨rfl, Nat.le_refl _⟩))).pI (Or.inr ⟨rfl, rfl⟩)).tr (q1.mono (fun c j z => by omega))) hwk, rfl, fun j hj => ?_⟩
                    rw [j_pI_off (by omega)]
                    rcases j with _ | j
                    · rw [q1.1 23 (i + 0) (by omega), j_pI_off (by omega)]
                      exact j_pI_at
                    · have := q3 j (by simpa using hj)
                      rw [show i + (j + 1) = i + 1 + j by omega]
                      exact this
                  · rw [nI_leI (by omega) (by omega)] at h69_11
                    refine v_iload (pc := 72) (i := 6) F dX10_putsOut_72 rfl ?_
                    refine v_if_ne (pc := 74) (tgt := 126) F dX10_putsOut_74 (by decide) (fun h74_12 => ?_) (fun h74_12 => ?_)
                    · rw [j_eq0 (by omega)] at h74_12
                      refine v_aload_n (pc := 126) (i := 0) F dX10_putsOut_126 rfl rfl ?_
                      refine v_getR (pc := 127) (o := 1) F fX10_9 dX10_putsOut_127 rfl lm0 ?_
                      refine v_topR (y := 1) rfl ?_
                      refine v_iload (pc := 130) (i := 5) F dX10_putsOut_130 rfl ?_
                      refine v_iconst (pc := 132) (v := (-1)) F dX10_putsOut_132 (by decide) ?_
                      refine v_iastN (pc := 133) (k0 := k) F dX10_putsOut_133 (lm10_0 lm0) (rfl) (by omega) (by decide) ?_
                      refine v_iload (pc := 134) (i := 6) F dX10_putsOut_134 rfl ?_
                      refine v_ireturn (pc := 136) F dX10_putsOut_136 (rfl) ?_
                      have e1 : poS n set sorts (r + 1) w = some (s :: L) := (poS_s hfe).trans (fsK_up (fsK_s hJ.2 hin hq) (by omega))
                      unfold POR
                      rw [e1]
                      refine ⟨Fm_fix (((hJ.1.pI (Or.inl (Or.inr ⟨rfl, Nat.le_refl _⟩))).pI (Or.inr ⟨rfl, rfl⟩)).tr (q1.mono (fun c j z => by omega))) hwk, rfl, fun j hj => ?_⟩
                      rw [j_pI_off (by omega)]
                      rcases j with _ | j
                      · rw [q1.1 23 (i + 0) (by omega), j_pI_off (by omega)]
                        exact j_pI_at
                      · have := q3 j (by simpa using hj)
                        rw [show i + (j + 1) = i + 1 + j by omega]
                        exact this
                    · rw [j_eq0 (by omega)] at h74_12
                      exact absurd h74_12 (by decide)
              · rw [b2i_0] at hin
                refine v_goto (pc := 87) (tgt := 120) F dX10_putsOut_87 (by decide) ?_
                refine v_iinc (pc := 120) (i := 7) (v := nI (s + 1)) (lo' := [some (.ref _), some (.int _), some (.int _), some (.int _), some (.int _), some (.int _), some (.int _), some (.int _)]) F dX10_putsOut_120 rfl (j_inc _) rfl rfl ?_
                refine v_goto (pc := 123) (tgt := 65) F dX10_putsOut_123 (by decide) ?_
                exact ihs (by omega) _ ⟨hJ.1, fsK_n2 hJ.2 hin⟩
        · rw [nI_eq (by omega) (by omega)] at h54_5
          omega
      · rw [hw.1 1 (by omega) (by omega)] at he
        refine v_iinc (pc := 44) (i := 5) (v := nI (k + 1)) (lo' := [some (.ref _), some (.int _), some (.int _), some (.int _), some (.int _), some (.int _), _, _]) F dX10_putsOut_44 rfl (j_inc _) rfl rfl ?_
        refine v_goto (pc := 47) (tgt := 26) F dX10_putsOut_47 (by decide) ?_
        exact ih (by omega) (fun j hj => by rcases Nat.lt_succ_iff_lt_or_eq.mp hj with q | q; exact hI j q; rw [q]; exact he)
  · rw [nI_eq (by omega) (by omega)] at h2_1
    omega

theorem c_X10_putsOut (n : Nat) (set sorts : Int32) (hn8 : n ≤ 8) (r : Nat) : ∀ (i len : Nat), i + r = len → len ≤ 3 → ∀ (w : Nat → Nat → Int32) (μ : j_M), RW w n μ → (∀ l, l < n → ¬ w 3 l = -1) → Ct yX10_putsOut cX10_putsOut 8 (some .boolean) (6 + r) ΛM [.ref 0, .int set, .int (nI i), .int (nI len), .int sorts] μ (pI fun x μ2 => POR (poS n set sorts r w) i μ x μ2) := by
  induction r with
  | zero =>
    intro i len h1 h2 w μ hw ho
    have e : i = len := by omega
    subst e
    exact c_X10_putsOut0 n set sorts i hn8 w μ hw ho h2
  | succ r ih =>
    intro i len h1 h2 w μ hw ho
    exact c_X10_putsOutS n set sorts r i len hn8 h1 h2 (fun w μ hw ho => ih (i + 1) len (by omega) h2 w μ hw ho) w μ hw ho
