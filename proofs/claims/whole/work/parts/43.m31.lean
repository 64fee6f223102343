/-! the reference: setOut -/
def soK (f : Nat → Option (List Nat)) : Nat → Option (List Nat)
  | 0 => none
  | k + 1 => match soK f k with
    | some L => some L
    | none => f k
theorem soK_n {f : Nat → Option (List Nat)} {k : Nat} (h : soK f k = none) (h2 : f k = none) : soK f (k + 1) = none := by simp only [soK, h, h2]
theorem soK_s {f : Nat → Option (List Nat)} {k : Nat} {L : List Nat} (h : soK f k = none) (h2 : f k = some L) : soK f (k + 1) = some L := by simp only [soK, h, h2]
theorem soK_u {f : Nat → Option (List Nat)} {k : Nat} {L : List Nat} (h : soK f k = some L) : ∀ m, soK f (k + m) = some L := by
  intro m
  induction m with
  | zero => exact h
  | succ m ih => rw [← Nat.add_assoc]; simp only [soK, ih]
theorem soK_up {f : Nat → Option (List Nat)} {k m : Nat} {L : List Nat} (h : soK f k = some L) (hm : k ≤ m) : soK f m = some L := by
  have := soK_u h (m - k)
  rwa [show k + (m - k) = m by omega] at this
theorem fsK_ex {S : Nat → Bool} {f : Nat → Option (List Nat)} {k : Nat} {L : List Nat} (h : fsK S f k = some L) : ∃ s L', s < k ∧ S s = true ∧ f s = some L' ∧ L = s :: L' := by
  induction k with
  | zero => cases h
  | succ k ih =>
    simp only [fsK] at h
    rcases e : fsK S f k with _ | L2
    · rw [e] at h
      simp only [] at h
      by_cases hs : S k = true
      · rw [if_pos hs] at h
        rcases e2 : f k with _ | L3
        · rw [e2] at h; cases h
        · rw [e2] at h; cases h
          exact ⟨k, L3, by omega, hs, e2, rfl⟩
      · rw [if_neg hs] at h; cases h
    · rw [e] at h
      cases h
      obtain ⟨s, L', h1, h2, h3, h4⟩ := ih e
      exact ⟨s, L', by omega, h2, h3, h4⟩
theorem poS_len {n : Nat} {set sorts : Int32} {r : Nat} : ∀ {w : Nat → Nat → Int32} {L : List Nat}, poS n set sorts r w = some L → L.length = r := by
  induction r with
  | zero =>
    intro w L h
    simp only [poS] at h
    split at h
    · cases h; rfl
    · cases h
  | succ r ih =>
    intro w L h
    rcases e : fem (w 1) with _ | p
    · rw [poS_n e] at h; cases h
    · rw [poS_s e] at h
      obtain ⟨s, L', h1, h2, h3, h4⟩ := fsK_ex h
      subst h4
      rw [List.length_cons, ih h3]
def srK (w : Nat → Nat → Int32) (set : Int32) : Nat → Int32
  | 0 => 0
  | l + 1 => if tb set l = true then srK w set l ||| ((1 : Int32) <<< (w 3 l &&& 31)) else srK w set l
theorem srK_t {w : Nat → Nat → Int32} {set : Int32} {l : Nat} (h : tb set l = true) : srK w set (l + 1) = srK w set l ||| ((1 : Int32) <<< (w 3 l &&& 31)) := if_pos h
theorem srK_f {w : Nat → Nat → Int32} {set : Int32} {l : Nat} (h : ¬ tb set l = true) : srK w set (l + 1) = srK w set l := if_neg h
abbrev soF (w : Nat → Nat → Int32) (n : Nat) (set : Int32) : Nat → Option (List Nat) := fun r => poS n set (srK w set n) r w
def s_setOut (set i : Int32) (μ : j_M) : Int32 × j_M := if inQ (2 ^ nn μ) set = true then (if (-1) ≤ i then (match soK (soF μ.1 (nn μ) set) 4 with
  | none => if i = -1 then (-1, μ) else rj (-5) 5 μ
  | some L => if i = -1 then (nI L.length, μ) else if i < nI L.length then (nI (L.getD (ix i) 0), μ) else rj (-5) 5 μ) else rj (-2) 2 μ) else rj (-2) 2 μ
theorem ge_m1 {i : Int32} (h : (-1) ≤ i) (h2 : ¬ i = -1) : ∃ k, k < 2 ^ 31 ∧ i = nI k := by
  refine nI_of (fun h3 => h2 ?_)
  have a := Int32.le_iff_toInt_le.mp h
  have b := Int32.lt_iff_toInt_lt.mp h3
  have c1 : (-1 : Int32).toInt = -1 := by decide
  have c2 : (0 : Int32).toInt = 0 := by decide
  refine Int32.toInt_inj.mp ?_
  omega
theorem PM_PS {i : Nat} {a b : j_M} (h : Fm (PM i) a b) : Fm PS a b := h.mono (fun c j q => by omega)
theorem RW_PM {w : Nat → Nat → Int32} {n i : Nat} {a b : j_M} (h : RW w n a) (hF : Fm (PM i) a b) : RW w n b := ⟨fun c h1 h2 => (funext fun j => hF.1 c j (by omega)).trans (h.1 c h1 h2), (hF.1 0 1 (by omega)).trans h.2⟩

theorem Fm.rj {μ m : j_M} {k : Nat} (h : Fm PS μ m) : Fm PS (j_pI μ 13 k (μ.1 13 k + 1)) (j_pI m 13 k (m.1 13 k + 1)) := by
  rw [h.1 13 k (by omega)]
  exact h.both

set_option maxRecDepth 100000 in
theorem c_X10_setOut (set i : Int32) (μ : j_M) (hM : MI μ) : Ct yX10_setOut cX10_setOut 5 (some .int) 12 ΛM [.ref 0, .int set, .int i] μ (pI fun r μ2 => r = (s_setOut set i μ).1 ∧ Fm PS (s_setOut set i μ).2 μ2) := by
  refine Ct.go (lo := [some (.ref 0), some (.int set), some (.int i), none, none]) (by decide) (Nat.le_of_ble_eq_true rfl) rfl rfl (fun X F => ?_)
  have F : Fx X cX10_setOut RX10 12 (some .int) ΛM := F
  obtain ⟨n, hW, hsh, htp, him⟩ := id hM
  have hn := hW.1
  have hn8 := hW.2.1
  have hnn := nn_eq hn hn8
  have ho := hW.own
  have hrw : RW μ.1 n μ := RW.self hn
  have hpw := j_pw hn8
  refine v_aload_n (pc := 0) (i := 0) F dX10_setOut_0 rfl rfl ?_
  refine v_iload_n (pc := 1) (i := 1) F dX10_setOut_1 rfl rfl ?_
  refine v_callVI (pc := 2) (As := [_]) (rest := []) (c := 10) F mX10_isSet kX10_234 im_X10_isSet se_X10_isSet dX10_setOut_2 rfl rfl (by decide) (c_X10_isSet _ n _ (by first | exact hn | assumption) hn8) (by decide) rfl rfl (Nat.le_of_ble_eq_true rfl) lm0 (fun x1 μ1 hp1 => ?_)
  rw [hp1.1, hp1.2]
  refine v_if_eq (pc := 5) (tgt := 13) F dX10_setOut_5 (by decide) (fun h5_2 => ?_) (fun h5_2 => ?_)
  · rw [b2i_0] at h5_2
    refine v_aload_n (pc := 13) (i := 0) F dX10_setOut_13 rfl rfl ?_
    refine v_bipush (pc := 14) (v := (-2)) F dX10_setOut_14 (by decide) ?_
    refine v_callVI (pc := 16) (As := [_]) (rest := []) (c := 10) F mX10_no kX10_96 im_X10_no se_X10_no dX10_setOut_16 rfl rfl (by decide) (c_X10_no (-2) 2 (by decide) (by decide) _) (by decide) rfl rfl (Nat.le_of_ble_eq_true rfl) lm0 (fun x3 μ3 hp3 => ?_)
    rw [hp3.1, hp3.2]
    refine v_ireturn (pc := 19) F dX10_setOut_19 (rfl) ?_
    unfold s_setOut rj
    simp only [hnn, h5_2, ↓reduceIte]
    with_reducible first | exact ⟨trivial, trivial⟩ | exact ⟨rfl, Fm.rf⟩ | exact ⟨trivial, Fm.rf⟩ | exact ⟨rfl, PM_PS fqq⟩ | exact ⟨trivial, PM_PS fqq⟩ | exact ⟨rfl, (PM_PS fqq).rj⟩ | exact ⟨trivial, (PM_PS fqq).rj⟩
  · rw [b2i_0] at h5_2
    rw [Classical.not_not] at h5_2
    obtain ⟨k_set, hk_set, he_set⟩ := inR_of (by omega) h5_2
    subst he_set
    have ek_set : ix (nI k_set) = k_set := nI_clamp (by omega)
    refine v_iload_n (pc := 8) (i := 2) F dX10_setOut_8 rfl rfl ?_
    refine v_iconst (pc := 9) (v := (-1)) F dX10_setOut_9 (by decide) ?_
    refine v_icmp_ge (pc := 10) (tgt := 20) F dX10_setOut_10 (by decide) (fun hge => ?_) (fun hge => ?_)
    · skip
      refine v_iconst (pc := 20) (v := nI 0) F dX10_setOut_20 (by decide) ?_
      refine v_istore_n (pc := 21) (lo' := [some (.ref _), some (.int _), some (.int _), some (.int _), _]) F dX10_setOut_21 rfl rfl (Nat.le_of_ble_eq_true rfl) rfl ?_
      refine v_iconst (pc := 22) (v := nI 0) F dX10_setOut_22 (by decide) ?_
      refine v_istore (pc := 23) (lo' := [some (.ref _), some (.int _), some (.int _), some (.int _), some (.int _)]) F dX10_setOut_23 rfl (Nat.le_of_ble_eq_true rfl) rfl ?_
      refine j_up n (fun k => V X _ 25 [some (.ref 0), some (.int (nI k_set)), some (.int i), some (.int ((srK μ.1 (nI k_set) k))), some (.int (nI k))] [] μ) (fun k hk ih => ?_) 0 (Nat.zero_le _)
      refine v_iload (pc := 25) (i := 4) F dX10_setOut_25 rfl ?_
      refine v_aload_n (pc := 27) (i := 0) F dX10_setOut_27 rfl rfl ?_
      refine v_getI (pc := 28) F fX10_89 dX10_setOut_28 rfl lm0 ?_
      refine v_topE (hn) ?_
      refine v_icmp_ge (pc := 31) (tgt := 61) F dX10_setOut_31 (by decide) (fun h31_5 => ?_) (fun h31_5 => ?_)
      · rw [nI_leI (by omega) (by omega)] at h31_5
        have en : n = k := by omega
        subst en
        refine v_iconst (pc := 61) (v := nI 0) F dX10_setOut_61 (by decide) ?_
        refine v_istore (pc := 62) (lo' := [some (.ref _), some (.int _), some (.int _), some (.int _), some (.int _)]) F dX10_setOut_62 rfl (Nat.le_of_ble_eq_true rfl) rfl ?_
        refine j_up 4 (fun k => ∀ μ' : j_M, (Fm (PM 0) μ μ' ∧ soK (soF μ.1 n (nI k_set)) k = none) → V X _ 64 [some (.ref 0), some (.int (nI k_set)), some (.int i), some (.int ((srK μ.1 (nI k_set) n))), some (.int (nI k))] [] μ') (fun k hk ih μ' hJ => ?_) 0 (Nat.zero_le _) μ (⟨Fm.rf, rfl⟩)
        refine v_iload (pc := 64) (i := 4) F dX10_setOut_64 rfl ?_
        refine v_iconst (pc := 66) (v := nI 4) F dX10_setOut_66 (by decide) ?_
        refine v_icmp_ge (pc := 67) (tgt := 88) F dX10_setOut_67 (by decide) (fun h67 => ?_) (fun h67 => ?_)
        · rw [nI_leI (by omega) (by omega)] at h67
          have e4 : k = 4 := by omega
          subst e4
          have hso := hJ.2
          have fqq := hJ.1
          refine v_iload_n (pc := 88) (i := 2) F dX10_setOut_88 rfl rfl ?_
          refine v_iconst (pc := 89) (v := (-1)) F dX10_setOut_89 (by decide) ?_
          refine v_icmp_ne (pc := 90) (tgt := 106) F dX10_setOut_90 (by decide) (fun h90 => ?_) (fun h90 => ?_)
          · skip
            obtain ⟨ki, hki, hie⟩ := ge_m1 hge h90
            subst hie
            have eki : ix (nI ki) = ki := ix_nI hki
            refine v_iload (pc := 106) (i := 4) F dX10_setOut_106 rfl ?_
            refine v_iconst (pc := 108) (v := nI 4) F dX10_setOut_108 (by decide) ?_
            refine v_icmp_eq (pc := 109) (tgt := 118) F dX10_setOut_109 (by decide) (fun h109 => ?_) (fun h109 => ?_)
            · rw [nI_eq (by omega) (by omega)] at h109
              refine v_aload_n (pc := 118) (i := 0) F dX10_setOut_118 rfl rfl ?_
              refine v_bipush (pc := 119) (v := (-5)) F dX10_setOut_119 (by decide) ?_
              refine v_callVI (pc := 121) (As := [_]) (rest := []) (c := 10) F mX10_no kX10_96 im_X10_no se_X10_no dX10_setOut_121 rfl rfl (by decide) (c_X10_no (-5) 5 (by decide) (by decide) _) (by decide) rfl rfl (Nat.le_of_ble_eq_true rfl) lm0 (fun x9 μ9 hp9 => ?_)
              rw [hp9.1, hp9.2]
              refine v_goto (pc := 124) (tgt := 133) F dX10_setOut_124 (by decide) ?_
              refine v_ireturn (pc := 133) F dX10_setOut_133 (rfl) ?_
              unfold s_setOut rj
              simp only [hnn, h5_2, ek_set, hge, h31_5, h90, eki, hso, ↓reduceIte]
              with_reducible first | exact ⟨trivial, trivial⟩ | exact ⟨rfl, Fm.rf⟩ | exact ⟨trivial, Fm.rf⟩ | exact ⟨rfl, PM_PS fqq⟩ | exact ⟨trivial, PM_PS fqq⟩ | exact ⟨rfl, (PM_PS fqq).rj⟩ | exact ⟨trivial, (PM_PS fqq).rj⟩
            · rw [nI_eq (by omega) (by omega)] at h109
              exact absurd h109 (by decide)
          · skip
            refine v_iload (pc := 93) (i := 4) F dX10_setOut_93 rfl ?_
            refine v_iconst (pc := 95) (v := nI 4) F dX10_setOut_95 (by decide) ?_
            refine v_icmp_ne (pc := 96) (tgt := 103) F dX10_setOut_96 (by decide) (fun h96 => ?_) (fun h96 => ?_)
            · rw [nI_eq (by omega) (by omega)] at h96
              exact absurd h96 (by decide)
            · rw [nI_eq (by omega) (by omega)] at h96
              refine v_iconst (pc := 99) (v := (-1)) F dX10_setOut_99 (by decide) ?_
              refine v_goto (pc := 100) (tgt := 105) F dX10_setOut_100 (by decide) ?_
              refine v_ireturn (pc := 105) F dX10_setOut_105 (rfl) ?_
              unfold s_setOut rj
              simp only [hnn, h5_2, ek_set, hge, h31_5, h90, hso, ↓reduceIte]
              with_reducible first | exact ⟨trivial, trivial⟩ | exact ⟨rfl, Fm.rf⟩ | exact ⟨trivial, Fm.rf⟩ | exact ⟨rfl, PM_PS fqq⟩ | exact ⟨trivial, PM_PS fqq⟩ | exact ⟨rfl, (PM_PS fqq).rj⟩ | exact ⟨trivial, (PM_PS fqq).rj⟩
        · rw [nI_leI (by omega) (by omega)] at h67
          refine v_aload_n (pc := 70) (i := 0) F dX10_setOut_70 rfl rfl ?_
          refine v_iload_n (pc := 71) (i := 1) F dX10_setOut_71 rfl rfl ?_
          refine v_iconst (pc := 72) (v := nI 0) F dX10_setOut_72 (by decide) ?_
          refine v_iload (pc := 73) (i := 4) F dX10_setOut_73 rfl ?_
          refine v_iload_n (pc := 75) (i := 3) F dX10_setOut_75 rfl rfl ?_
          refine v_callVI (pc := 76) (As := [_, _, _, _]) (rest := []) (c := 10) F mX10_putsOut kX10_248 im_X10_putsOut se_X10_putsOut dX10_setOut_76 rfl rfl (by decide) (c_X10_putsOut n _ _ hn8 k 0 k (by omega) (by omega) μ.1 _ (RW_PM hrw hJ.1) ho) (by omega) rfl rfl (Nat.le_of_ble_eq_true rfl) lm0 (fun x11 μ11 hp11 => ?_)
          skip
          rcases hq : poS n (nI k_set) (srK μ.1 (nI k_set) n) k μ.1 with _ | L
          · skip
            rw [hq] at hp11
            obtain ⟨q1, q2⟩ := hp11
            refine v_topE (y := nI 0) q2 ?_
            refine v_if_ne (pc := 79) (tgt := 88) F dX10_setOut_79 (by decide) (fun h79_12 => ?_) (fun h79_12 => ?_)
            · rw [j_eq0 (by omega)] at h79_12
              exact absurd h79_12 (by decide)
            · rw [j_eq0 (by omega)] at h79_12
              refine v_iinc (pc := 82) (i := 4) (v := nI (k + 1)) (lo' := [some (.ref _), some (.int _), some (.int _), some (.int _), some (.int _)]) F dX10_setOut_82 rfl (j_inc _) rfl rfl ?_
              refine v_goto (pc := 85) (tgt := 64) F dX10_setOut_85 (by decide) ?_
              refine ih (by omega) _ ⟨hJ.1.tr q1, soK_n (f := soF μ.1 n (nI k_set)) hJ.2 hq⟩
          · skip
            rw [hq] at hp11
            obtain ⟨q1, q2, q3⟩ := hp11
            refine v_topE (y := nI 1) q2 ?_
            have hso : soK (soF μ.1 n (nI k_set)) 4 = some L := soK_up (soK_s (f := soF μ.1 n (nI k_set)) hJ.2 hq) (by omega)
            have hLl : L.length = k := poS_len hq
            refine v_if_ne (pc := 79) (tgt := 88) F dX10_setOut_79 (by decide) (fun h79_13 => ?_) (fun h79_13 => ?_)
            · rw [j_eq0 (by omega)] at h79_13
              have fqq := hJ.1.tr q1
              refine v_iload_n (pc := 88) (i := 2) F dX10_setOut_88 rfl rfl ?_
              refine v_iconst (pc := 89) (v := (-1)) F dX10_setOut_89 (by decide) ?_
              refine v_icmp_ne (pc := 90) (tgt := 106) F dX10_setOut_90 (by decide) (fun h90 => ?_) (fun h90 => ?_)
              · skip
                obtain ⟨ki, hki, hie⟩ := ge_m1 hge h90
                subst hie
                have eki : ix (nI ki) = ki := ix_nI hki
                refine v_iload (pc := 106) (i := 4) F dX10_setOut_106 rfl ?_
                refine v_iconst (pc := 108) (v := nI 4) F dX10_setOut_108 (by decide) ?_
                refine v_icmp_eq (pc := 109) (tgt := 118) F dX10_setOut_109 (by decide) (fun h109 => ?_) (fun h109 => ?_)
                · rw [nI_eq (by omega) (by omega)] at h109
                  omega
                · rw [nI_eq (by omega) (by omega)] at h109
                  refine v_iload_n (pc := 112) (i := 2) F dX10_setOut_112 rfl rfl ?_
                  refine v_iload (pc := 113) (i := 4) F dX10_setOut_113 rfl ?_
                  refine v_icmp_lt (pc := 115) (tgt := 127) F dX10_setOut_115 (by decide) (fun h115 => ?_) (fun h115 => ?_)
                  · skip
                    have h115n := (nI_ltI (by omega) (by omega)).mp h115
                    refine v_aload_n (pc := 127) (i := 0) F dX10_setOut_127 rfl rfl ?_
                    refine v_getR (pc := 128) (o := 23) F fX10_78 dX10_setOut_128 rfl lm0 ?_
                    refine v_topR (y := 23) rfl ?_
                    refine v_iload_n (pc := 131) (i := 2) F dX10_setOut_131 rfl rfl ?_
                    refine v_ialdN (pc := 132) (k0 := ki) F dX10_setOut_132 (lm10_32 lm0) (rfl) (by have := (nI_ltI (by omega) (by omega)).mp h115; omega) (by decide) ?_
                    refine v_topE (y := nI ((L.getD ki 0))) (by have := q3 ki (by rw [hLl]; exact h115n); rwa [Nat.zero_add] at this) ?_
                    refine v_ireturn (pc := 133) F dX10_setOut_133 (rfl) ?_
                    unfold s_setOut rj
                    simp only [hnn, h5_2, ek_set, hge, h31_5, h79_13, h90, eki, h115, hso, hLl, ↓reduceIte]
                    with_reducible first | exact ⟨trivial, trivial⟩ | exact ⟨rfl, Fm.rf⟩ | exact ⟨trivial, Fm.rf⟩ | exact ⟨rfl, PM_PS fqq⟩ | exact ⟨trivial, PM_PS fqq⟩ | exact ⟨rfl, (PM_PS fqq).rj⟩ | exact ⟨trivial, (PM_PS fqq).rj⟩
                  · skip
                    refine v_aload_n (pc := 118) (i := 0) F dX10_setOut_118 rfl rfl ?_
                    refine v_bipush (pc := 119) (v := (-5)) F dX10_setOut_119 (by decide) ?_
                    refine v_callVI (pc := 121) (As := [_]) (rest := []) (c := 10) F mX10_no kX10_96 im_X10_no se_X10_no dX10_setOut_121 rfl rfl (by decide) (c_X10_no (-5) 5 (by decide) (by decide) _) (by decide) rfl rfl (Nat.le_of_ble_eq_true rfl) lm0 (fun x17 μ17 hp17 => ?_)
                    rw [hp17.1, hp17.2]
                    refine v_goto (pc := 124) (tgt := 133) F dX10_setOut_124 (by decide) ?_
                    refine v_ireturn (pc := 133) F dX10_setOut_133 (rfl) ?_
                    unfold s_setOut rj
                    simp only [hnn, h5_2, ek_set, hge, h31_5, h79_13, h90, eki, h115, hso, hLl, ↓reduceIte]
                    with_reducible first | exact ⟨trivial, trivial⟩ | exact ⟨rfl, Fm.rf⟩ | exact ⟨trivial, Fm.rf⟩ | exact ⟨rfl, PM_PS fqq⟩ | exact ⟨trivial, PM_PS fqq⟩ | exact ⟨rfl, (PM_PS fqq).rj⟩ | exact ⟨trivial, (PM_PS fqq).rj⟩
              · skip
                refine v_iload (pc := 93) (i := 4) F dX10_setOut_93 rfl ?_
                refine v_iconst (pc := 95) (v := nI 4) F dX10_setOut_95 (by decide) ?_
                refine v_icmp_ne (pc := 96) (tgt := 103) F dX10_setOut_96 (by decide) (fun h96 => ?_) (fun h96 => ?_)
                · rw [nI_eq (by omega) (by omega)] at h96
                  refine v_iload (pc := 103) (i := 4) F dX10_setOut_103 rfl ?_
                  refine v_ireturn (pc := 105) F dX10_setOut_105 (rfl) ?_
                  unfold s_setOut rj
                  simp only [hnn, h5_2, ek_set, hge, h31_5, h79_13, h90, hso, hLl, ↓reduceIte]
                  with_reducible first | exact ⟨trivial, trivial⟩ | exact ⟨rfl, Fm.rf⟩ | exact ⟨trivial, Fm.rf⟩ | exact ⟨rfl, PM_PS fqq⟩ | exact ⟨trivial, PM_PS fqq⟩ | exact ⟨rfl, (PM_PS fqq).rj⟩ | exact ⟨trivial, (PM_PS fqq).rj⟩
                · rw [nI_eq (by omega) (by omega)] at h96
                  omega
            · rw [j_eq0 (by omega)] at h79_13
              exact absurd h79_13 (by decide)
      · rw [nI_leI (by omega) (by omega)] at h31_5
        refine v_iload_n (pc := 34) (i := 1) F dX10_setOut_34 rfl rfl ?_
        refine v_iload (pc := 35) (i := 4) F dX10_setOut_35 rfl ?_
        refine v_callSI (pc := 37) (As := [_, _]) (rest := []) F mX10_in kX10_194 sm_X10_in dX10_setOut_37 (c_X10_inN _ k (by omega) _) (by decide) rfl rfl (Nat.le_of_ble_eq_true rfl) (fun x19 μ19 hp19 => ?_)
        rw [hp19.1, hp19.2]
        refine v_if_eq (pc := 40) (tgt := 55) F dX10_setOut_40 (by decide) (fun hin => ?_) (fun hin => ?_)
        · rw [b2i_0] at hin
          refine v_iinc (pc := 55) (i := 4) (v := nI (k + 1)) (lo' := [some (.ref _), some (.int _), some (.int _), some (.int _), some (.int _)]) F dX10_setOut_55 rfl (j_inc _) rfl rfl ?_
          refine v_goto (pc := 58) (tgt := 25) F dX10_setOut_58 (by decide) ?_
          have q := ih (by omega)
          first | (rw [srK_t hin] at q; exact q) | (rw [srK_f hin] at q; exact q)
        · rw [b2i_0] at hin
          rw [Classical.not_not] at hin
          refine v_iload_n (pc := 43) (i := 3) F dX10_setOut_43 rfl rfl ?_
          refine v_iconst (pc := 44) (v := nI 1) F dX10_setOut_44 (by decide) ?_
          refine v_aload_n (pc := 45) (i := 0) F dX10_setOut_45 rfl rfl ?_
          refine v_getR (pc := 46) (o := 3) F fX10_16 dX10_setOut_46 rfl lm0 ?_
          refine v_topR (y := 3) rfl ?_
          refine v_iload (pc := 49) (i := 4) F dX10_setOut_49 rfl ?_
          refine v_ialdN (pc := 51) (k0 := k) F dX10_setOut_51 (lm10_3 lm0) (rfl) (by omega) (by decide) ?_
          refine v_ishl (pc := 52) F dX10_setOut_52 ?_
          refine v_ior (pc := 53) F dX10_setOut_53 ?_
          refine v_istore_n (pc := 54) (lo' := [some (.ref _), some (.int _), some (.int _), some (.int _), some (.int _)]) F dX10_setOut_54 rfl rfl (Nat.le_of_ble_eq_true rfl) rfl ?_
          refine v_iinc (pc := 55) (i := 4) (v := nI (k + 1)) (lo' := [some (.ref _), some (.int _), some (.int _), some (.int _), some (.int _)]) F dX10_setOut_55 rfl (j_inc _) rfl rfl ?_
          refine v_goto (pc := 58) (tgt := 25) F dX10_setOut_58 (by decide) ?_
          have q := ih (by omega)
          first | (rw [srK_t hin] at q; exact q) | (rw [srK_f hin] at q; exact q)
    · skip
      refine v_aload_n (pc := 13) (i := 0) F dX10_setOut_13 rfl rfl ?_
      refine v_bipush (pc := 14) (v := (-2)) F dX10_setOut_14 (by decide) ?_
      refine v_callVI (pc := 16) (As := [_]) (rest := []) (c := 10) F mX10_no kX10_96 im_X10_no se_X10_no dX10_setOut_16 rfl rfl (by decide) (c_X10_no (-2) 2 (by decide) (by decide) _) (by decide) rfl rfl (Nat.le_of_ble_eq_true rfl) lm0 (fun x21 μ21 hp21 => ?_)
      rw [hp21.1, hp21.2]
      refine v_ireturn (pc := 19) F dX10_setOut_19 (rfl) ?_
      unfold s_setOut rj
      simp only [hnn, h5_2, ek_set, hge, ↓reduceIte]
      with_reducible first | exact ⟨trivial, trivial⟩ | exact ⟨rfl, Fm.rf⟩ | exact ⟨trivial, Fm.rf⟩ | exact ⟨rfl, PM_PS fqq⟩ | exact ⟨trivial, PM_PS fqq⟩ | exact ⟨rfl, (PM_PS fqq).rj⟩ | exact ⟨trivial, (PM_PS fqq).rj⟩
