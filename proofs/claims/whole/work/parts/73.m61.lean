/-! the class: how many to set out -/
theorem soK_nn {f : Nat → Option (List Nat)} : ∀ {m : Nat}, (∀ s, s < m → f s = none) → soK f m = none := by
  intro m
  induction m with
  | zero => intro _; rfl
  | succ m ih => intro h; exact soK_n (ih (fun s hs => h s (by omega))) (h m (by omega))
theorem soF_E {w : Nat → Nat → Int32} {n k : Nat} {set : Int32} (hk : k ≤ (poE w).length) : soF w n set k = (fN (POL n set (srK w set n) ((poE w).take k) w) (8 ^ k)).map (DL ((poE w).take k)) := by
  show poS n set (srK w set n) k w = _
  rw [poS_L, if_pos hk, poL_f, List.length_take, Nat.min_eq_left hk]
theorem soF_no {w : Nat → Nat → Int32} {n k : Nat} {set : Int32} (hk : (poE w).length < k) : soF w n set k = none := by
  show poS n set (srK w set n) k w = _
  rw [poS_L, if_neg (by omega)]

set_option maxRecDepth 100000 in
theorem c_X8_findSetOut (x : Nat) (hx : j_ob ΛX x 8) (b : Nat) (hb : j_ob ΛX b 4) (n : Nat) (w : Nat → Nat → Int32) (μ : j_M) (hS : SQ μ b w n) (hW : WI w n) (hxb : x + 26 ≤ b ∨ b + 21 ≤ x) (st : Nat) (hst : st < 2 ^ n)  : Ct yX8_findSetOut cX8_findSetOut 6 (some .int) 6 ΛX [.ref x, .ref b, .int (nI st)] μ (pI fun r μ2 => Fm (P8 x) μ μ2 ∧ (match soK (soF w n (nI st)) 4 with | none => r = -1 | some L => r = nI L.length ∧ L.length ≤ 3 ∧ ∀ i, i < L.length → μ2.1 (x + 25) i = nI (L.getD i 0))) := by
  refine Ct.go (lo := [some (.ref x), some (.ref b), some (.int (nI st)), none, none, none]) (by decide) (Nat.le_of_ble_eq_true rfl) rfl rfl (fun X F => ?_)
  have F : Fx X cX8_findSetOut RX8 6 (some .int) ΛX := F
  have hn8 := hS.2
  refine v_aload_n (pc := 0) (i := 0) F dX8_findSetOut_0 rfl rfl ?_
  refine v_getR (pc := 1) (o := 1) F fX8_12 dX8_findSetOut_1 rfl hx ?_
  refine v_topR (y := x + 1) rfl ?_
  refine v_aload_n (pc := 4) (i := 1) F dX8_findSetOut_4 rfl rfl ?_
  refine v_callVV (pc := 5) (As := [_]) (rest := []) (c := 4) F mX4_become kX8_32 im_X4_become se_X4_become dX8_findSetOut_5 rfl rfl (by decide) (c_X4_become (x + 1) (lx8_0 hx) b hb n w _ (hS) (by omega)) (by decide) rfl rfl (Nat.le_of_ble_eq_true rfl) (lx8_0 hx) (fun μ1 hp1 => ?_)
  skip
  refine v_aload_n (pc := 8) (i := 0) F dX8_findSetOut_8 rfl rfl ?_
  refine v_callVI (pc := 9) (As := []) (rest := []) (c := 8) F mX8_findEmptyPlaces kX8_36 im_X8_findEmptyPlaces se_X8_findEmptyPlaces dX8_findSetOut_9 rfl rfl (by decide) (c_X8_findEmptyPlaces x hx n w _ hp1.1) (by decide) rfl rfl (Nat.le_of_ble_eq_true rfl) hx (fun x2 μ2 hp2 => ?_)
  obtain ⟨R, hR1, hR3, hRl, hRx, hRe, hRF⟩ := hp2
  rw [hR1]
  have hSt : SQ μ2 (x + 1) w n := SQ_F hp1.1 hRF (fun c j z => by omega)
  have hF0 : Fm (P8 x) μ μ2 := (hp1.2.mono (fun c j z => by omega)).tr (hRF.mono (fun c j z => by omega))
  refine v_istore_n (pc := 12) (lo' := [some (.ref _), some (.ref _), some (.int _), some (.int _), _, _]) F dX8_findSetOut_12 rfl rfl (Nat.le_of_ble_eq_true rfl) rfl ?_
  refine v_iconst (pc := 13) (v := nI 0) F dX8_findSetOut_13 (by decide) ?_
  refine v_istore (pc := 14) (lo' := [some (.ref _), some (.ref _), some (.int _), some (.int _), some (.int _), _]) F dX8_findSetOut_14 rfl (Nat.le_of_ble_eq_true rfl) rfl ?_
  refine v_iconst (pc := 16) (v := nI 0) F dX8_findSetOut_16 (by decide) ?_
  refine v_istore (pc := 17) (lo' := [some (.ref _), some (.ref _), some (.int _), some (.int _), some (.int _), some (.int _)]) F dX8_findSetOut_17 rfl (Nat.le_of_ble_eq_true rfl) rfl ?_
  refine j_up n (fun k => V X _ 19 [some (.ref x), some (.ref b), some (.int (nI st)), some (.int (nI R)), some (.int ((srK w (nI st) k))), some (.int (nI k))] [] μ2) (fun k hk ih => ?_) 0 (Nat.zero_le _)
  refine v_iload (pc := 19) (i := 5) F dX8_findSetOut_19 rfl ?_
  refine v_aload_n (pc := 21) (i := 0) F dX8_findSetOut_21 rfl rfl ?_
  refine v_getR (pc := 22) (o := 1) F fX8_12 dX8_findSetOut_22 rfl hx ?_
  refine v_topR (y := x + 1) rfl ?_
  refine v_getI (pc := 25) F fX8_40 dX8_findSetOut_25 rfl (lx8_0 hx) ?_
  refine v_topE (y := nI n) (hSt.1.cnt) ?_
  refine v_icmp_ge (pc := 28) (tgt := 66) F dX8_findSetOut_28 (by decide) (fun h28_3 => ?_) (fun h28_3 => ?_)
  · rw [nI_leI (by omega) (by omega)] at h28_3
    have en : n = k := by omega
    subst en
    refine v_iconst (pc := 66) (v := nI 0) F dX8_findSetOut_66 (by decide) ?_
    refine v_istore (pc := 67) (lo' := [some (.ref _), some (.ref _), some (.int _), some (.int _), some (.int _), some (.int _)]) F dX8_findSetOut_67 rfl (Nat.le_of_ble_eq_true rfl) rfl ?_
    have hW0T : WT w n [] x w μ2 := ⟨hSt, hW.t, fun _ _ _ => rfl⟩
    refine j_up (R + 1) (fun k => ∀ μ' : j_M, (Fm (P8 x) μ μ' ∧ Fm (PI8 x) μ2 μ' ∧ (∃ W, WT w n ((poE w).take k) x W μ') ∧ ∀ j, j < k → (soF w n (nI st)) j = none) → V X _ 69 [some (.ref x), some (.ref b), some (.int (nI st)), some (.int (nI R)), some (.int ((srK w (nI st) n))), some (.int (nI k))] [] μ') (fun k hk ih μ' hI => ?_) 0 (Nat.zero_le _) _ ⟨hF0, Fm.rf, ⟨w, hW0T⟩, fun j hj => absurd hj (Nat.not_lt_zero _)⟩
    refine v_iload (pc := 69) (i := 5) F dX8_findSetOut_69 rfl ?_
    refine v_iload_n (pc := 71) (i := 3) F dX8_findSetOut_71 rfl rfl ?_
    refine v_icmp_gt (pc := 72) (tgt := 96) F dX8_findSetOut_72 (by decide) (fun h72 => ?_) (fun h72 => ?_)
    · rw [nI_ltI (by omega) (by omega)] at h72
      refine v_iconst (pc := 96) (v := (-1)) F dX8_findSetOut_96 (by decide) ?_
      refine v_ireturn (pc := 97) F dX8_findSetOut_97 (rfl) ?_
      have hso : soK (soF w n (nI st)) 4 = none := soK_nn (fun j hj => by
        by_cases c : j < k
        · exact hI.2.2.2 j c
        · exact soF_no (by have := hRx (by omega); omega))
      refine ⟨hI.1, ?_⟩
      rw [hso]
    · rw [nI_ltI (by omega) (by omega)] at h72
      refine v_aload_n (pc := 75) (i := 0) F dX8_findSetOut_75 rfl rfl ?_
      refine v_iload_n (pc := 76) (i := 2) F dX8_findSetOut_76 rfl rfl ?_
      refine v_iload (pc := 77) (i := 4) F dX8_findSetOut_77 rfl ?_
      refine v_iload (pc := 79) (i := 5) F dX8_findSetOut_79 rfl ?_
      obtain ⟨Wq, hWq⟩ := hI.2.2.1
      have hEl : ((poE w).take k).length = k := by rw [List.length_take]; omega
      have hget : ∀ i, i < k → ((poE w).take k).getD i 0 = (poE w).getD i 0 := fun i hi => by rw [List.getD_eq_getElem?_getD, List.getElem?_take_of_lt hi, List.getD_eq_getElem?_getD]
      have hie := c_X8_isEnough x hx n w μ' hW st hst (srK w (nI st) n) ((poE w).take k) (poE_nodup.sublist (List.take_sublist _ _)) (fun i hi => (poE_mem (by rw [hget i (by omega)]; exact getD_mem (by omega))).1) (fun i hi => by rw [hget i (by omega)]; exact (hI.2.1.1 _ _ (by omega)).trans (hRe i (by omega))) (by omega) Wq hWq
      rw [hEl] at hie
      refine v_callVI (pc := 81) (As := [_, _, _]) (rest := []) (c := 8) F mX8_isEnough kX8_53 im_X8_isEnough se_X8_isEnough dX8_findSetOut_81 rfl rfl (by decide) (hie) (by decide) rfl rfl (Nat.le_of_ble_eq_true rfl) hx (fun x5 μ5 hp5 => ?_)
      obtain ⟨hWx, hFx, hor⟩ := hp5
      rcases hor with ⟨hx1, hno⟩ | ⟨hx1, rr, hyes, hds⟩
      · skip
        rw [hx1]
        have hfk : (soF w n (nI st)) k = none := by rw [soF_E (by omega), hno]; rfl
        refine v_if_eq (pc := 84) (tgt := 90) F dX8_findSetOut_84 (by decide) (fun h84_6 => ?_) (fun h84_6 => ?_)
        · skip
          refine v_iinc (pc := 90) (i := 5) (v := nI (k + 1)) (lo' := [some (.ref _), some (.ref _), some (.int _), some (.int _), some (.int _), some (.int _)]) F dX8_findSetOut_90 rfl (j_inc _) rfl rfl ?_
          refine v_goto (pc := 93) (tgt := 69) F dX8_findSetOut_93 (by decide) ?_
          refine ih (by omega) _ ⟨hI.1.tr (hFx.mono (fun c j z => by omega)), hI.2.1.tr hFx, ?_, fun j hj => ?_⟩
          · obtain ⟨W2, hW2⟩ := hWx
            refine ⟨W2, hW2.up (fun p hp => ?_)⟩
            rw [List.take_succ]
            exact List.mem_append_left _ hp
          · rcases Nat.lt_succ_iff_lt_or_eq.mp hj with z | z
            · exact hI.2.2.2 j z
            · rw [z]; exact hfk
        · skip
          exact absurd rfl h84_6
      · skip
        rw [hx1]
        have hfk : (soF w n (nI st)) k = some (DL ((poE w).take k) rr) := by rw [soF_E (by omega), hyes]; rfl
        refine v_if_eq (pc := 84) (tgt := 90) F dX8_findSetOut_84 (by decide) (fun h84_7 => ?_) (fun h84_7 => ?_)
        · skip
          exact absurd h84_7 (by decide)
        · skip
          refine v_iload (pc := 87) (i := 5) F dX8_findSetOut_87 rfl ?_
          refine v_ireturn (pc := 89) F dX8_findSetOut_89 (rfl) ?_
          have hso : soK (soF w n (nI st)) 4 = some (DL ((poE w).take k) rr) := soK_up (soK_s (soK_nn hI.2.2.2) hfk) (by omega)
          refine ⟨hI.1.tr (hFx.mono (fun c j z => by omega)), ?_⟩
          rw [hso]
          have hDl : (DL ((poE w).take k) rr).length = k := (DL_len _ _).trans hEl
          refine ⟨by rw [hDl], by omega, fun i hi => ?_⟩
          rw [DL_get _ _ _ (by rw [hEl]; exact (fN_spec hyes).1) (by omega), hEl]
          exact hds i (by omega)
  · rw [nI_leI (by omega) (by omega)] at h28_3
    refine v_iload_n (pc := 31) (i := 2) F dX8_findSetOut_31 rfl rfl ?_
    refine v_iload (pc := 32) (i := 5) F dX8_findSetOut_32 rfl ?_
    refine v_ishr (pc := 34) F dX8_findSetOut_34 ?_
    refine v_iconst (pc := 35) (v := nI 1) F dX8_findSetOut_35 (by decide) ?_
    refine v_iand (pc := 36) F dX8_findSetOut_36 ?_
    refine v_if_eq (pc := 37) (tgt := 60) F dX8_findSetOut_37 (by decide) (fun hin => ?_) (fun hin => ?_)
    · rw [tb_if (by omega)] at hin
      refine v_iinc (pc := 60) (i := 5) (v := nI (k + 1)) (lo' := [some (.ref _), some (.ref _), some (.int _), some (.int _), some (.int _), some (.int _)]) F dX8_findSetOut_60 rfl (j_inc _) rfl rfl ?_
      refine v_goto (pc := 63) (tgt := 19) F dX8_findSetOut_63 (by decide) ?_
      have q := ih (by omega)
      first | (rw [srK_t hin] at q; exact q) | (rw [srK_f hin] at q; exact q)
    · rw [tb_if (by omega)] at hin
      rw [Classical.not_not] at hin
      refine v_iload (pc := 40) (i := 4) F dX8_findSetOut_40 rfl ?_
      refine v_iconst (pc := 42) (v := nI 1) F dX8_findSetOut_42 (by decide) ?_
      refine v_aload_n (pc := 43) (i := 0) F dX8_findSetOut_43 rfl rfl ?_
      refine v_getR (pc := 44) (o := 1) F fX8_12 dX8_findSetOut_44 rfl hx ?_
      refine v_topR (y := x + 1) rfl ?_
      refine v_getR (pc := 47) (o := 3) F fX8_44 dX8_findSetOut_47 rfl (lx8_0 hx) ?_
      refine v_topR (y := x + 4) rfl ?_
      refine v_iload (pc := 50) (i := 5) F dX8_findSetOut_50 rfl ?_
      refine v_aald14N (pc := 52) (k0 := k) (x := x + 6 + 2 * k) F dX8_findSetOut_52 (lx4_2 (lx8_0 hx)) (rfl) (by omega) (by decide) (by simp only [j_ro]; first | rfl | omega | (split <;> omega)) ?_
      have ho9 : j_ob ΛX (x + 6 + 2 * k) 3 := by
        have q := lxL (lx4_2 (lx8_0 hx)) (j := k) (by omega)
        simp only [j_ro] at q
        exact (by first | exact q | (rw [show x + 6 + 2 * k = _ from (by first | rfl | omega)]; exact q))
      refine v_getI (pc := 53) F fX8_48 dX8_findSetOut_53 rfl ho9 ?_
      refine v_topE (y := (w 3 k)) ((hSt.1.lk k (by omega)).a) ?_
      refine v_ishl (pc := 56) F dX8_findSetOut_56 ?_
      refine v_ior (pc := 57) F dX8_findSetOut_57 ?_
      refine v_istore (pc := 58) (lo' := [some (.ref _), some (.ref _), some (.int _), some (.int _), some (.int _), some (.int _)]) F dX8_findSetOut_58 rfl (Nat.le_of_ble_eq_true rfl) rfl ?_
      refine v_iinc (pc := 60) (i := 5) (v := nI (k + 1)) (lo' := [some (.ref _), some (.ref _), some (.int _), some (.int _), some (.int _), some (.int _)]) F dX8_findSetOut_60 rfl (j_inc _) rfl rfl ?_
      refine v_goto (pc := 63) (tgt := 19) F dX8_findSetOut_63 (by decide) ?_
      have q := ih (by omega)
      first | (rw [srK_t hin] at q; exact q) | (rw [srK_f hin] at q; exact q)

set_option maxRecDepth 100000 in
theorem c_X8_sortSetOut (x : Nat) (hx : j_ob ΛX x 8) (k : Nat) (hk : k < 3) (μ : j_M) : Ct yX8_sortSetOut cX8_sortSetOut 2 (some .int) 0 ΛX [.ref x, .int (nI k)] μ (pI fun r μ2 => r = μ.1 (x + 25) k ∧ μ2 = μ) := by
  refine Ct.go (lo := [some (.ref x), some (.int (nI k))]) (by decide) (Nat.le_of_ble_eq_true rfl) rfl rfl (fun X F => ?_)
  have F : Fx X cX8_sortSetOut RX8 0 (some .int) ΛX := F
  refine v_iload_n (pc := 0) (i := 1) F dX8_sortSetOut_0 rfl rfl ?_
  refine v_if_lt (pc := 1) (tgt := 18) F dX8_sortSetOut_1 (by decide) (fun h1_1 => ?_) (fun h1_1 => ?_)
  · rw [j_lt0 (by omega)] at h1_1
    exact h1_1.elim
  · rw [j_lt0 (by omega)] at h1_1
    refine v_iload_n (pc := 4) (i := 1) F dX8_sortSetOut_4 rfl rfl ?_
    refine v_iconst (pc := 5) (v := nI 3) F dX8_sortSetOut_5 (by decide) ?_
    refine v_icmp_ge (pc := 6) (tgt := 18) F dX8_sortSetOut_6 (by decide) (fun h6_2 => ?_) (fun h6_2 => ?_)
    · rw [nI_leI (by omega) (by omega)] at h6_2
      omega
    · rw [nI_leI (by omega) (by omega)] at h6_2
      refine v_aload_n (pc := 9) (i := 0) F dX8_sortSetOut_9 rfl rfl ?_
      refine v_getR (pc := 10) (o := 25) F fX8_29 dX8_sortSetOut_10 rfl hx ?_
      refine v_topR (y := x + 25) rfl ?_
      refine v_iload_n (pc := 13) (i := 1) F dX8_sortSetOut_13 rfl rfl ?_
      refine v_ialdN (pc := 14) (k0 := k) F dX8_sortSetOut_14 (lx8_3 hx) (rfl) (by omega) (by decide) ?_
      refine v_goto (pc := 15) (tgt := 19) F dX8_sortSetOut_15 (by decide) ?_
      refine v_ireturn (pc := 19) F dX8_sortSetOut_19 (rfl) ?_
      exact ⟨rfl, rfl⟩

set_option maxRecDepth 100000 in
theorem c_X9_setOut (set i : Int32) (μ ν : j_M) (hM : MI ν) (hR : Rel μ ν) : Ct yX9_setOut cX9_setOut 4 (some .int) 8 ΛX [.ref 0, .int set, .int i] μ (pI fun r μ2 => r = (s_setOut set i ν).1 ∧ Rel μ2 (s_setOut set i ν).2) := by
  refine Ct.go (lo := [some (.ref 0), some (.int set), some (.int i), none]) (by decide) (Nat.le_of_ble_eq_true rfl) rfl rfl (fun X F => ?_)
  have F : Fx X cX9_setOut RX9 8 (some .int) ΛX := F
  obtain ⟨n, hW, hsh, htp, him⟩ := id hM
  have hn := hW.1
  have hn8 := hW.2.1
  have hnn := nn_eq hn hn8
  have ho := hW.own
  have hpw := j_pw hn8
  have hS : SQ μ 1 ν.1 n := ⟨by have := hR.sc; rwa [hnn] at this, hn8⟩
  refine v_aload_n (pc := 0) (i := 0) F dX9_setOut_0 rfl rfl ?_
  refine v_iload_n (pc := 1) (i := 1) F dX9_setOut_1 rfl rfl ?_
  refine v_callVI (pc := 2) (As := [_]) (rest := []) (c := 9) F mX9_isSet kX9_257 im_X9_isSet se_X9_isSet dX9_setOut_2 rfl rfl (by decide) (c_X9_isSet _ n ν.1 _ (hS)) (by decide) rfl rfl (Nat.le_of_ble_eq_true rfl) lx0 (fun x1 μ1 hp1 => ?_)
  rw [hp1.1, hp1.2]
  refine v_if_eq (pc := 5) (tgt := 13) F dX9_setOut_5 (by decide) (fun h5_2 => ?_) (fun h5_2 => ?_)
  · rw [b2i_0] at h5_2
    refine v_aload_n (pc := 13) (i := 0) F dX9_setOut_13 rfl rfl ?_
    refine v_bipush (pc := 14) (v := (-2)) F dX9_setOut_14 (by decide) ?_
    refine v_callVI (pc := 16) (As := [_]) (rest := []) (c := 9) F mX9_refuse kX9_79 im_X9_refuse se_X9_refuse dX9_setOut_16 rfl rfl (by decide) (c_X9_refuse (-2) 2 (by decide) (by decide) (by decide) _) (by decide) rfl rfl (Nat.le_of_ble_eq_true rfl) lx0 (fun x3 μ3 hp3 => ?_)
    rw [hp3.1, hp3.2]
    refine v_ireturn (pc := 19) F dX9_setOut_19 (rfl) ?_
    simp only [s_setOut, rj, hnn, h5_2, ↓reduceIte]
    refine ⟨?_, ?_⟩ <;> first | exact trivial | exact rfl | exact hR | exact Rel.rj hM hR (by decide)
  · rw [b2i_0] at h5_2
    rw [Classical.not_not] at h5_2
    obtain ⟨k_set, hk_set, he_set⟩ := inR_of (by omega) h5_2
    subst he_set
    have ek_set : ix (nI k_set) = k_set := nI_clamp (by omega)
    refine v_iload_n (pc := 8) (i := 2) F dX9_setOut_8 rfl rfl ?_
    refine v_iconst (pc := 9) (v := (-1)) F dX9_setOut_9 (by decide) ?_
    refine v_icmp_ge (pc := 10) (tgt := 20) F dX9_setOut_10 (by decide) (fun hge => ?_) (fun hge => ?_)
    · skip
      refine v_aload_n (pc := 20) (i := 0) F dX9_setOut_20 rfl rfl ?_
      refine v_getR (pc := 21) (o := 72) F fX9_46 dX9_setOut_21 rfl lx0 ?_
      refine v_topR (y := 72) rfl ?_
      refine v_aload_n (pc := 24) (i := 0) F dX9_setOut_24 rfl rfl ?_
      refine v_getR (pc := 25) (o := 1) F fX9_12 dX9_setOut_25 rfl lx0 ?_
      refine v_topR (y := 1) rfl ?_
      refine v_iload_n (pc := 28) (i := 1) F dX9_setOut_28 rfl rfl ?_
      refine v_callVI (pc := 29) (As := [_, _]) (rest := []) (c := 8) F mX8_findSetOut kX9_330 im_X8_findSetOut se_X8_findSetOut dX9_setOut_29 rfl rfl (by decide) (c_X8_findSetOut 72 (lx9_7 lx0) 1 (lx9_0 lx0) n ν.1 _ (hS) hW (by omega) k_set (by omega)) (by decide) rfl rfl (Nat.le_of_ble_eq_true rfl) (lx9_7 lx0) (fun x5 μ5 hp5 => ?_)
      have hfs := hp5
      rcases hso : soK (soF ν.1 n (nI k_set)) 4 with _ | L
      · skip
        rw [hso] at hfs
        rw [show _ = (-1 : Int32) from hfs.2]
        refine v_istore_n (pc := 32) (lo' := [some (.ref _), some (.int _), some (.int _), some (.int _)]) F dX9_setOut_32 rfl rfl (Nat.le_of_ble_eq_true rfl) rfl ?_
        refine v_iload_n (pc := 33) (i := 2) F dX9_setOut_33 rfl rfl ?_
        refine v_iconst (pc := 34) (v := (-1)) F dX9_setOut_34 (by decide) ?_
        refine v_icmp_ne (pc := 35) (tgt := 40) F dX9_setOut_35 (by decide) (fun h35 => ?_) (fun h35 => ?_)
        · skip
          obtain ⟨ki, hki, hie⟩ := ge_m1 hge h35
          subst hie
          have eki : ix (nI ki) = ki := ix_nI hki
          refine v_iload_n (pc := 40) (i := 2) F dX9_setOut_40 rfl rfl ?_
          refine v_iload_n (pc := 41) (i := 3) F dX9_setOut_41 rfl rfl ?_
          refine v_icmp_ge (pc := 42) (tgt := 56) F dX9_setOut_42 (by decide) (fun h42 => ?_) (fun h42 => ?_)
          · skip
            refine v_aload_n (pc := 56) (i := 0) F dX9_setOut_56 rfl rfl ?_
            refine v_bipush (pc := 57) (v := (-5)) F dX9_setOut_57 (by decide) ?_
            refine v_callVI (pc := 59) (As := [_]) (rest := []) (c := 9) F mX9_refuse kX9_79 im_X9_refuse se_X9_refuse dX9_setOut_59 rfl rfl (by decide) (c_X9_refuse (-5) 5 (by decide) (by decide) (by decide) _) (by decide) rfl rfl (Nat.le_of_ble_eq_true rfl) lx0 (fun x8 μ8 hp8 => ?_)
            rw [hp8.1, hp8.2]
            refine v_ireturn (pc := 62) F dX9_setOut_62 (rfl) ?_
            simp only [s_setOut, rj, hnn, h5_2, ek_set, hge, hso, h35, eki, h42, ↓reduceIte]
            refine ⟨?_, ?_⟩ <;> first | exact trivial | exact rfl | exact (hR.X hM hfs.1 (fun c j z => by omega)) | exact Rel.rj hM (hR.X hM hfs.1 (fun c j z => by omega)) (by decide)
          · skip
            exact absurd hge h42
        · skip
          refine v_iload_n (pc := 38) (i := 3) F dX9_setOut_38 rfl rfl ?_
          refine v_ireturn (pc := 39) F dX9_setOut_39 (rfl) ?_
          simp only [s_setOut, rj, hnn, h5_2, ek_set, hge, hso, h35, ↓reduceIte]
          refine ⟨?_, ?_⟩ <;> first | exact trivial | exact rfl | exact (hR.X hM hfs.1 (fun c j z => by omega)) | exact Rel.rj hM (hR.X hM hfs.1 (fun c j z => by omega)) (by decide)
      · skip
        rw [hso] at hfs
        obtain ⟨hf0, hf1, hf3, hf2⟩ := id hfs
        rw [hf1]
        refine v_istore_n (pc := 32) (lo' := [some (.ref _), some (.int _), some (.int _), some (.int _)]) F dX9_setOut_32 rfl rfl (Nat.le_of_ble_eq_true rfl) rfl ?_
        refine v_iload_n (pc := 33) (i := 2) F dX9_setOut_33 rfl rfl ?_
        refine v_iconst (pc := 34) (v := (-1)) F dX9_setOut_34 (by decide) ?_
        refine v_icmp_ne (pc := 35) (tgt := 40) F dX9_setOut_35 (by decide) (fun h35 => ?_) (fun h35 => ?_)
        · skip
          obtain ⟨ki, hki, hie⟩ := ge_m1 hge h35
          subst hie
          have eki : ix (nI ki) = ki := ix_nI hki
          refine v_iload_n (pc := 40) (i := 2) F dX9_setOut_40 rfl rfl ?_
          refine v_iload_n (pc := 41) (i := 3) F dX9_setOut_41 rfl rfl ?_
          refine v_icmp_ge (pc := 42) (tgt := 56) F dX9_setOut_42 (by decide) (fun h42 => ?_) (fun h42 => ?_)
          · rw [nI_leI (by omega) (by omega)] at h42
            have h42n : ¬ nI ki < nI L.length := by rw [nI_ltI (by omega) (by omega)]; omega
            refine v_aload_n (pc := 56) (i := 0) F dX9_setOut_56 rfl rfl ?_
            refine v_bipush (pc := 57) (v := (-5)) F dX9_setOut_57 (by decide) ?_
            refine v_callVI (pc := 59) (As := [_]) (rest := []) (c := 9) F mX9_refuse kX9_79 im_X9_refuse se_X9_refuse dX9_setOut_59 rfl rfl (by decide) (c_X9_refuse (-5) 5 (by decide) (by decide) (by decide) _) (by decide) rfl rfl (Nat.le_of_ble_eq_true rfl) lx0 (fun x11 μ11 hp11 => ?_)
            rw [hp11.1, hp11.2]
            refine v_ireturn (pc := 62) F dX9_setOut_62 (rfl) ?_
            simp only [s_setOut, rj, hnn, h5_2, ek_set, hge, hso, h35, eki, h42, h42n, ↓reduceIte]
            refine ⟨?_, ?_⟩ <;> first | exact trivial | exact rfl | exact (hR.X hM hfs.1 (fun c j z => by omega)) | exact Rel.rj hM (hR.X hM hfs.1 (fun c j z => by omega)) (by decide)
          · rw [nI_leI (by omega) (by omega)] at h42
            have h42n : nI ki < nI L.length := (nI_ltI (by omega) (by omega)).mpr (by omega)
            refine v_aload_n (pc := 45) (i := 0) F dX9_setOut_45 rfl rfl ?_
            refine v_getR (pc := 46) (o := 72) F fX9_46 dX9_setOut_46 rfl lx0 ?_
            refine v_topR (y := 72) rfl ?_
            refine v_iload_n (pc := 49) (i := 2) F dX9_setOut_49 rfl rfl ?_
            refine v_callVI (pc := 50) (As := [_]) (rest := []) (c := 8) F mX8_sortSetOut kX9_333 im_X8_sortSetOut se_X8_sortSetOut dX9_setOut_50 rfl rfl (by decide) (c_X8_sortSetOut 72 (lx9_7 lx0) ki (by omega) _) (by decide) rfl rfl (Nat.le_of_ble_eq_true rfl) (lx9_7 lx0) (fun x12 μ12 hp12 => ?_)
            rw [hp12.1, hp12.2]
            rw [hf2 ki (by omega)]
            refine v_goto (pc := 53) (tgt := 62) F dX9_setOut_53 (by decide) ?_
            refine v_ireturn (pc := 62) F dX9_setOut_62 (rfl) ?_
            simp only [s_setOut, rj, hnn, h5_2, ek_set, hge, hso, h35, eki, h42, h42n, ↓reduceIte]
            refine ⟨?_, ?_⟩ <;> first | exact trivial | exact rfl | exact (hR.X hM hfs.1 (fun c j z => by omega)) | exact Rel.rj hM (hR.X hM hfs.1 (fun c j z => by omega)) (by decide)
        · skip
          refine v_iload_n (pc := 38) (i := 3) F dX9_setOut_38 rfl rfl ?_
          refine v_ireturn (pc := 39) F dX9_setOut_39 (rfl) ?_
          simp only [s_setOut, rj, hnn, h5_2, ek_set, hge, hso, h35, ↓reduceIte]
          refine ⟨?_, ?_⟩ <;> first | exact trivial | exact rfl | exact (hR.X hM hfs.1 (fun c j z => by omega)) | exact Rel.rj hM (hR.X hM hfs.1 (fun c j z => by omega)) (by decide)
    · skip
      refine v_aload_n (pc := 13) (i := 0) F dX9_setOut_13 rfl rfl ?_
      refine v_bipush (pc := 14) (v := (-2)) F dX9_setOut_14 (by decide) ?_
      refine v_callVI (pc := 16) (As := [_]) (rest := []) (c := 9) F mX9_refuse kX9_79 im_X9_refuse se_X9_refuse dX9_setOut_16 rfl rfl (by decide) (c_X9_refuse (-2) 2 (by decide) (by decide) (by decide) _) (by decide) rfl rfl (Nat.le_of_ble_eq_true rfl) lx0 (fun x13 μ13 hp13 => ?_)
      rw [hp13.1, hp13.2]
      refine v_ireturn (pc := 19) F dX9_setOut_19 (rfl) ?_
      simp only [s_setOut, rj, hnn, h5_2, ek_set, hge, ↓reduceIte]
      refine ⟨?_, ?_⟩ <;> first | exact trivial | exact rfl | exact hR | exact Rel.rj hM hR (by decide)
