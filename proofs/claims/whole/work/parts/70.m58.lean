/-! the class: the judge -/

set_option maxRecDepth 100000 in
theorem c_X4_toldLookers (b : Nat) (hb : j_ob ΛX b 4) (n : Nat) (w : Nat → Nat → Int32) (μ : j_M) (hS : SQ μ b w n) (y : Nat) (hy5 : j_ob ΛX y 5) (N : Nat) (hN : N < 21) (t : Nat → Int64) (hsz : inQ 5 (μ.1 y 1) = true → ∃ m, m ≤ 40 ∧ μ.1 y 2 = nI m) (ht : ∀ i, i < 2 * N → elB μ y (nI i) = t i)  : Ct yX4_toldLookers cX4_toldLookers 7 (some .int) 2 ΛX [.ref b, .ref y, .int (nI N)] μ (pI fun r μ2 => r = (wsK t n N) ∧ μ2 = μ) := by
  refine Ct.go (lo := [some (.ref b), some (.ref y), some (.int (nI N)), none, none, none, none]) (by decide) (Nat.le_of_ble_eq_true rfl) rfl rfl (fun X F => ?_)
  have F : Fx X cX4_toldLookers RX4 2 (some .int) ΛX := F
  have hn8 := hS.2
  refine v_iconst (pc := 0) (v := nI 0) F dX4_toldLookers_0 (by decide) ?_
  refine v_istore_n (pc := 1) (lo' := [some (.ref _), some (.ref _), some (.int _), some (.int _), _, _, _]) F dX4_toldLookers_1 rfl rfl (Nat.le_of_ble_eq_true rfl) rfl ?_
  refine v_iconst (pc := 2) (v := nI 0) F dX4_toldLookers_2 (by decide) ?_
  refine v_istore (pc := 3) (lo' := [some (.ref _), some (.ref _), some (.int _), some (.int _), some (.int _), _, _]) F dX4_toldLookers_3 rfl (Nat.le_of_ble_eq_true rfl) rfl ?_
  refine j_up N (fun k => V X _ 5 [some (.ref b), some (.ref y), some (.int (nI N)), some (.int ((wsK t n k))), some (.int (nI k)), none, none] [] μ) (fun k hk ih => ?_) 0 (Nat.zero_le _)
  refine v_iload (pc := 5) (i := 4) F dX4_toldLookers_5 rfl ?_
  refine v_iload_n (pc := 7) (i := 2) F dX4_toldLookers_7 rfl rfl ?_
  refine v_icmp_ge (pc := 8) (tgt := 53) F dX4_toldLookers_8 (by decide) (fun hg => ?_) (fun hg => ?_)
  · rw [nI_leI (by omega) (by omega)] at hg
    refine v_iload_n (pc := 53) (i := 3) F dX4_toldLookers_53 rfl rfl ?_
    refine v_ireturn (pc := 54) F dX4_toldLookers_54 (rfl) ?_
    have e : k = N := by omega
    subst e
    exact ⟨rfl, rfl⟩
  · rw [nI_leI (by omega) (by omega)] at hg
    refine v_aload_n (pc := 11) (i := 1) F dX4_toldLookers_11 rfl rfl ?_
    refine v_iconst (pc := 12) (v := nI 2) F dX4_toldLookers_12 (by decide) ?_
    refine v_iload (pc := 13) (i := 4) F dX4_toldLookers_13 rfl ?_
    refine v_imul (pc := 15) F dX4_toldLookers_15 ?_
    refine v_topE (pk_mul _ _) ?_
    refine v_callVJ (pc := 16) (As := [_]) (rest := []) (c := 5) F mX5_elementAt kX4_127 im_X5_elementAt se_X5_elementAt dX4_toldLookers_16 rfl rfl (by decide) (c_X5_elementAt _ hy5 _ _ hsz) (by decide) rfl rfl (Nat.le_of_ble_eq_true rfl) hy5 (fun x2 μ2 hp2 => ?_)
    rw [hp2.1, hp2.2, ht (2 * k) (by omega)]
    refine v_lstore (pc := 19) (lo' := [some (.ref _), some (.ref _), some (.int _), some (.int _), some (.int _), some (.long _), _]) F dX4_toldLookers_19 rfl (Nat.le_of_ble_eq_true rfl) rfl ?_
    refine v_lload (pc := 21) (i := 5) F dX4_toldLookers_21 rfl ?_
    refine v_lconst (pc := 23) (v := 0) F dX4_toldLookers_23 (by decide) ?_
    refine v_lcmp (pc := 24) F dX4_toldLookers_24 ?_
    refine v_if_lt (pc := 25) (tgt := 47) F dX4_toldLookers_25 (by decide) (fun h1 => ?_) (fun h1 => ?_)
    · rw [lc_lt] at h1
      refine v_iinc (pc := 47) (i := 4) (v := nI (k + 1)) (lo' := [some (.ref _), some (.ref _), some (.int _), some (.int _), some (.int _), some (.long _), _]) F dX4_toldLookers_47 rfl (j_inc _) rfl rfl ?_
      refine v_goto (pc := 50) (tgt := 5) F dX4_toldLookers_50 (by decide) ?_
      refine v_drop (i := 5) (lo' := [some (.ref _), some (.ref _), some (.int _), some (.int _), some (.int _), _, _]) rfl ?_
      have q := ih (by omega)
      first | (rw [wsK_1 (t := t) (i := k) h1 h2] at q; exact q) | (rw [wsK_2 (t := t) (i := k) h1] at q; exact q) | (rw [wsK_3 (t := t) (i := k) h2] at q; exact q)
    · rw [lc_lt] at h1
      refine v_lload (pc := 28) (i := 5) F dX4_toldLookers_28 rfl ?_
      refine v_aload_n (pc := 30) (i := 0) F dX4_toldLookers_30 rfl rfl ?_
      refine v_getI (pc := 31) F fX4_44 dX4_toldLookers_31 rfl hb ?_
      refine v_topE (y := nI n) (hS.1.cnt) ?_
      refine v_i2l (pc := 34) F dX4_toldLookers_34 ?_
      refine v_lcmp (pc := 35) F dX4_toldLookers_35 ?_
      refine v_if_ge (pc := 36) (tgt := 47) F dX4_toldLookers_36 (by decide) (fun h2 => ?_) (fun h2 => ?_)
      · rw [lc_ge] at h2
        refine v_iinc (pc := 47) (i := 4) (v := nI (k + 1)) (lo' := [some (.ref _), some (.ref _), some (.int _), some (.int _), some (.int _), some (.long _), _]) F dX4_toldLookers_47 rfl (j_inc _) rfl rfl ?_
        refine v_goto (pc := 50) (tgt := 5) F dX4_toldLookers_50 (by decide) ?_
        refine v_drop (i := 5) (lo' := [some (.ref _), some (.ref _), some (.int _), some (.int _), some (.int _), _, _]) rfl ?_
        have q := ih (by omega)
        first | (rw [wsK_1 (t := t) (i := k) h1 h2] at q; exact q) | (rw [wsK_2 (t := t) (i := k) h1] at q; exact q) | (rw [wsK_3 (t := t) (i := k) h2] at q; exact q)
      · rw [lc_ge] at h2
        refine v_iload_n (pc := 39) (i := 3) F dX4_toldLookers_39 rfl rfl ?_
        refine v_iconst (pc := 40) (v := nI 1) F dX4_toldLookers_40 (by decide) ?_
        refine v_lload (pc := 41) (i := 5) F dX4_toldLookers_41 rfl ?_
        refine v_l2i (pc := 43) F dX4_toldLookers_43 ?_
        refine v_ishl (pc := 44) F dX4_toldLookers_44 ?_
        refine v_ior (pc := 45) F dX4_toldLookers_45 ?_
        refine v_istore_n (pc := 46) (lo' := [some (.ref _), some (.ref _), some (.int _), some (.int _), some (.int _), some (.long _), _]) F dX4_toldLookers_46 rfl rfl (Nat.le_of_ble_eq_true rfl) rfl ?_
        refine v_iinc (pc := 47) (i := 4) (v := nI (k + 1)) (lo' := [some (.ref _), some (.ref _), some (.int _), some (.int _), some (.int _), some (.long _), _]) F dX4_toldLookers_47 rfl (j_inc _) rfl rfl ?_
        refine v_goto (pc := 50) (tgt := 5) F dX4_toldLookers_50 (by decide) ?_
        refine v_drop (i := 5) (lo' := [some (.ref _), some (.ref _), some (.int _), some (.int _), some (.int _), _, _]) rfl ?_
        have q := ih (by omega)
        first | (rw [wsK_1 (t := t) (i := k) h1 h2] at q; exact q) | (rw [wsK_2 (t := t) (i := k) h1] at q; exact q) | (rw [wsK_3 (t := t) (i := k) h2] at q; exact q)

set_option maxRecDepth 100000 in
theorem c_X4_wrongPair (b : Nat) (hb : j_ob ΛX b 4) (n : Nat) (w : Nat → Nat → Int32) (μ : j_M) (hS : SQ μ b w n) (y : Nat) (hy5 : j_ob ΛX y 5) (N : Nat) (hN : N < 21) (t : Nat → Int64) (hsz : inQ 5 (μ.1 y 1) = true → ∃ m, m ≤ 40 ∧ μ.1 y 2 = nI m) (ht : ∀ i, i < 2 * N → elB μ y (nI i) = t i) (hW : WI w n)  : Ct yX4_wrongPair cX4_wrongPair 8 (some .int) 4 ΛX [.ref b, .ref y, .int (nI N)] μ (pI fun r μ2 => r = (o2i (fN (wrP w n t (wsK t n N)) N)) ∧ μ2 = μ) := by
  refine Ct.go (lo := [some (.ref b), some (.ref y), some (.int (nI N)), none, none, none, none, none]) (by decide) (Nat.le_of_ble_eq_true rfl) rfl rfl (fun X F => ?_)
  have F : Fx X cX4_wrongPair RX4 4 (some .int) ΛX := F
  have hn8 := hS.2
  refine v_aload_n (pc := 0) (i := 0) F dX4_wrongPair_0 rfl rfl ?_
  refine v_aload_n (pc := 1) (i := 1) F dX4_wrongPair_1 rfl rfl ?_
  refine v_iload_n (pc := 2) (i := 2) F dX4_wrongPair_2 rfl rfl ?_
  refine v_callVI (pc := 3) (As := [_, _]) (rest := []) (c := 4) F mX4_toldLookers kX4_120 im_X4_toldLookers se_X4_toldLookers dX4_wrongPair_3 rfl rfl (by decide) (c_X4_toldLookers b hb n w _ (hS) y hy5 N hN t hsz ht) (by decide) rfl rfl (Nat.le_of_ble_eq_true rfl) hb (fun x1 μ1 hp1 => ?_)
  rw [hp1.1, hp1.2]
  obtain ⟨SS, hSS⟩ : ∃ SS, SS = wsK t n N := ⟨_, rfl⟩
  rw [← hSS]
  have hON : (OO w n SS).Nodup := ordO_nodup
  have hOl : (OO w n SS).length ≤ n := by rw [← AK_n]; exact AK_le (Nat.le_refl _)
  refine v_istore_n (pc := 6) (lo' := [some (.ref _), some (.ref _), some (.int _), some (.int _), _, _, _, _]) F dX4_wrongPair_6 rfl rfl (Nat.le_of_ble_eq_true rfl) rfl ?_
  refine v_aload_n (pc := 7) (i := 0) F dX4_wrongPair_7 rfl rfl ?_
  refine v_getI (pc := 8) F fX4_51 dX4_wrongPair_8 rfl hb ?_
  refine v_topE (y := (lfB (w 1))) (hS.1.fil) ?_
  refine v_istore (pc := 11) (lo' := [some (.ref _), some (.ref _), some (.int _), some (.int _), some (.int _), _, _, _]) F dX4_wrongPair_11 rfl (Nat.le_of_ble_eq_true rfl) rfl ?_
  refine v_iconst (pc := 13) (v := nI 0) F dX4_wrongPair_13 (by decide) ?_
  refine v_istore (pc := 14) (lo' := [some (.ref _), some (.ref _), some (.int _), some (.int _), some (.int _), some (.int _), _, _]) F dX4_wrongPair_14 rfl (Nat.le_of_ble_eq_true rfl) rfl ?_
  refine j_up N (fun k => (∀ j, j < k → (wrP w n t SS) j = false) → V X _ 16 [some (.ref b), some (.ref y), some (.int (nI N)), some (.int SS), some (.int ((lfB (goU w ((OO w n SS).take k) (w 1))))), some (.int (nI k)), none, none] [] μ) (fun k hk ih hI => ?_) 0 (Nat.zero_le _) (fun j hj => absurd hj (Nat.not_lt_zero _))
  refine v_iload (pc := 16) (i := 5) F dX4_wrongPair_16 rfl ?_
  refine v_iload_n (pc := 18) (i := 2) F dX4_wrongPair_18 rfl rfl ?_
  refine v_icmp_ge (pc := 19) (tgt := 116) F dX4_wrongPair_19 (by decide) (fun h19_2 => ?_) (fun h19_2 => ?_)
  · rw [nI_leI (by omega) (by omega)] at h19_2
    refine v_iconst (pc := 116) (v := (-1)) F dX4_wrongPair_116 (by decide) ?_
    refine v_ireturn (pc := 117) F dX4_wrongPair_117 (rfl) ?_
    refine ⟨?_, rfl⟩
    rw [fN_none (P := (wrP w n t SS)) (fun j hj => hI j (by omega))]
    rfl
  · rw [nI_leI (by omega) (by omega)] at h19_2
    refine v_aload_n (pc := 22) (i := 0) F dX4_wrongPair_22 rfl rfl ?_
    refine v_iload_n (pc := 23) (i := 3) F dX4_wrongPair_23 rfl rfl ?_
    refine v_iload (pc := 24) (i := 5) F dX4_wrongPair_24 rfl ?_
    refine v_callVI (pc := 26) (As := [_, _]) (rest := []) (c := 4) F mX4_inOrder kX4_124 im_X4_inOrder se_X4_inOrder dX4_wrongPair_26 rfl rfl (by decide) (c_X4_inOrder b hb n w _ (hS) _ _) (by decide) rfl rfl (Nat.le_of_ble_eq_true rfl) hb (fun x3 μ3 hp3 => ?_)
    rw [hp3.1, hp3.2]
    by_cases hl : k < (OO w n SS).length
    · skip
      obtain ⟨x, hx⟩ : ∃ x, (OO w n SS).getD k 0 = x := ⟨_, rfl⟩
      have hxn : x < n := by rw [← hx]; exact (ordO_mem.mp (getD_mem (O := OO w n SS) hl)).1
      refine v_topE (y := nI x) (by unfold ioI; rw [if_pos ((inR_iff (by omega)).mpr ⟨k, hl, rfl⟩), ix_nI (by omega), hx]) ?_
      refine v_istore (pc := 29) (lo' := [some (.ref _), some (.ref _), some (.int _), some (.int _), some (.int _), some (.int _), some (.int _), _]) F dX4_wrongPair_29 rfl (Nat.le_of_ble_eq_true rfl) rfl ?_
      refine v_iload (pc := 31) (i := 6) F dX4_wrongPair_31 rfl ?_
      refine v_iconst (pc := 33) (v := (-1)) F dX4_wrongPair_33 (by decide) ?_
      refine v_icmp_eq (pc := 34) (tgt := 52) F dX4_wrongPair_34 (by decide) (fun h34_4 => ?_) (fun h34_4 => ?_)
      · rw [j_nm1 (by omega)] at h34_4
        exact absurd h34_4 (fun z => z)
      · rw [j_nm1 (by omega)] at h34_4
        refine v_aload_n (pc := 37) (i := 1) F dX4_wrongPair_37 rfl rfl ?_
        refine v_iconst (pc := 38) (v := nI 2) F dX4_wrongPair_38 (by decide) ?_
        refine v_iload (pc := 39) (i := 5) F dX4_wrongPair_39 rfl ?_
        refine v_imul (pc := 41) F dX4_wrongPair_41 ?_
        refine v_topE (pk_mul _ _) ?_
        refine v_callVJ (pc := 42) (As := [_]) (rest := []) (c := 5) F mX5_elementAt kX4_127 im_X5_elementAt se_X5_elementAt dX4_wrongPair_42 rfl rfl (by decide) (c_X5_elementAt _ hy5 _ _ hsz) (by decide) rfl rfl (Nat.le_of_ble_eq_true rfl) hy5 (fun x5 μ5 hp5 => ?_)
        rw [hp5.1, hp5.2, ht (2 * k) (by omega)]
        refine v_iload (pc := 45) (i := 6) F dX4_wrongPair_45 rfl ?_
        refine v_i2l (pc := 47) F dX4_wrongPair_47 ?_
        refine v_lcmp (pc := 48) F dX4_wrongPair_48 ?_
        refine v_if_eq (pc := 49) (tgt := 55) F dX4_wrongPair_49 (by decide) (fun hz1 => ?_) (fun hz1 => ?_)
        · rw [lc_eq] at hz1
          refine v_aload_n (pc := 55) (i := 0) F dX4_wrongPair_55 rfl rfl ?_
          refine v_aload_n (pc := 56) (i := 0) F dX4_wrongPair_56 rfl rfl ?_
          refine v_getR (pc := 57) (o := 3) F fX4_20 dX4_wrongPair_57 rfl hb ?_
          refine v_topR (y := b + 3) rfl ?_
          refine v_iload (pc := 60) (i := 6) F dX4_wrongPair_60 rfl ?_
          refine v_aald14N (pc := 62) (k0 := x) (x := b + 5 + 2 * x) F dX4_wrongPair_62 (lx4_2 hb) (rfl) (by omega) (by decide) (by simp only [j_ro]; first | rfl | omega | (split <;> omega)) ?_
          have ho7 : j_ob ΛX (b + 5 + 2 * x) 3 := by
            have q := lxL (lx4_2 hb) (j := x) (by omega)
            simp only [j_ro] at q
            exact (by first | exact q | (rw [show b + 5 + 2 * x = _ from (by first | rfl | omega)]; exact q))
          refine v_iload (pc := 63) (i := 4) F dX4_wrongPair_63 rfl ?_
          refine v_callVI (pc := 65) (As := [_, _]) (rest := []) (c := 4) F mX4_takes kX4_133 im_X4_takes se_X4_takes dX4_wrongPair_65 rfl rfl (by decide) (c_X4_takes b hb n w _ (hS) x ho7 hW (by omega) ((goU w ((OO w n SS).take k) (w 1))) ((UU.go UU.self))) (by decide) rfl rfl (Nat.le_of_ble_eq_true rfl) hb (fun x8 μ8 hp8 => ?_)
          rw [hp8.1, hp8.2]
          refine v_istore (pc := 68) (lo' := [some (.ref _), some (.ref _), some (.int _), some (.int _), some (.int _), some (.int _), some (.int _), some (.int _)]) F dX4_wrongPair_68 rfl (Nat.le_of_ble_eq_true rfl) rfl ?_
          refine v_aload_n (pc := 70) (i := 1) F dX4_wrongPair_70 rfl rfl ?_
          refine v_iconst (pc := 71) (v := nI 2) F dX4_wrongPair_71 (by decide) ?_
          refine v_iload (pc := 72) (i := 5) F dX4_wrongPair_72 rfl ?_
          refine v_imul (pc := 74) F dX4_wrongPair_74 ?_
          refine v_topE (pk_mul _ _) ?_
          refine v_iconst (pc := 75) (v := nI 1) F dX4_wrongPair_75 (by decide) ?_
          refine v_iadd (pc := 76) F dX4_wrongPair_76 ?_
          refine v_topE (nI_add _ _) ?_
          refine v_callVJ (pc := 77) (As := [_]) (rest := []) (c := 5) F mX5_elementAt kX4_127 im_X5_elementAt se_X5_elementAt dX4_wrongPair_77 rfl rfl (by decide) (c_X5_elementAt _ hy5 _ _ hsz) (by decide) rfl rfl (Nat.le_of_ble_eq_true rfl) hy5 (fun x9 μ9 hp9 => ?_)
          rw [hp9.1, hp9.2, ht (2 * k + 1) (by omega)]
          refine v_aload_n (pc := 80) (i := 0) F dX4_wrongPair_80 rfl rfl ?_
          refine v_aload_n (pc := 81) (i := 0) F dX4_wrongPair_81 rfl rfl ?_
          refine v_getR (pc := 82) (o := 3) F fX4_20 dX4_wrongPair_82 rfl hb ?_
          refine v_topR (y := b + 3) rfl ?_
          refine v_iload (pc := 85) (i := 6) F dX4_wrongPair_85 rfl ?_
          refine v_aald14N (pc := 87) (k0 := x) (x := b + 5 + 2 * x) F dX4_wrongPair_87 (lx4_2 hb) (rfl) (by omega) (by decide) (by simp only [j_ro]; first | rfl | omega | (split <;> omega)) ?_
          have ho10 : j_ob ΛX (b + 5 + 2 * x) 3 := by
            have q := lxL (lx4_2 hb) (j := x) (by omega)
            simp only [j_ro] at q
            exact (by first | exact q | (rw [show b + 5 + 2 * x = _ from (by first | rfl | omega)]; exact q))
          refine v_iload (pc := 88) (i := 7) F dX4_wrongPair_88 rfl ?_
          refine v_callVI (pc := 90) (As := [_, _]) (rest := [_]) (c := 4) F mX4_firstTaken kX4_136 im_X4_firstTaken se_X4_firstTaken dX4_wrongPair_90 rfl rfl (by decide) (c_X4_firstTaken b hb n w _ (hS) x ho10 hW hxn (goU w ((OO w n SS).take k) (w 1)) (UU.go UU.self) (tk (w 2 x) (w 3 x) (w 5 x) (goU w ((OO w n SS).take k) (w 1))) rfl) (by decide) rfl rfl (Nat.le_of_ble_eq_true rfl) hb (fun x11 μ11 hp11 => ?_)
          rw [hp11.1, hp11.2]
          have hT : (tk (w 2 x) (w 3 x) (w 5 x) (goU w ((OO w n SS).take k) (w 1))) = tE w n SS x := by
            have q := goT_take (w := w) (u := w 1) hON hl
            rw [take_snoc hl, hx, goT_app (by rw [← hx]; exact not_mem_take hON hl), if_pos rfl] at q
            exact q
          refine v_i2l (pc := 93) F dX4_wrongPair_93 ?_
          refine v_lcmp (pc := 94) F dX4_wrongPair_94 ?_
          refine v_if_eq (pc := 95) (tgt := 101) F dX4_wrongPair_95 (by decide) (fun hz2 => ?_) (fun hz2 => ?_)
          · rw [lc_eq, hT] at hz2
            refine v_iload (pc := 101) (i := 4) F dX4_wrongPair_101 rfl ?_
            refine v_iload (pc := 103) (i := 7) F dX4_wrongPair_103 rfl ?_
            refine v_iconst (pc := 105) (v := (-1)) F dX4_wrongPair_105 (by decide) ?_
            refine v_ixor (pc := 106) F dX4_wrongPair_106 ?_
            refine v_iand (pc := 107) F dX4_wrongPair_107 ?_
            refine v_istore (pc := 108) (lo' := [some (.ref _), some (.ref _), some (.int _), some (.int _), some (.int _), some (.int _), some (.int _), some (.int _)]) F dX4_wrongPair_108 rfl (Nat.le_of_ble_eq_true rfl) rfl ?_
            refine v_iinc (pc := 110) (i := 5) (v := nI (k + 1)) (lo' := [some (.ref _), some (.ref _), some (.int _), some (.int _), some (.int _), some (.int _), some (.int _), some (.int _)]) F dX4_wrongPair_110 rfl (j_inc _) rfl rfl ?_
            refine v_goto (pc := 113) (tgt := 16) F dX4_wrongPair_113 (by decide) ?_
            refine v_drop (i := 6) (lo' := [some (.ref _), some (.ref _), some (.int _), some (.int _), some (.int _), some (.int _), _, some (.int _)]) rfl ?_
            refine v_drop (i := 7) (lo' := [some (.ref _), some (.ref _), some (.int _), some (.int _), some (.int _), some (.int _), _, _]) rfl ?_
            have q := ih (by omega)
            rw [take_snoc hl, hx, goU_app, ← rest_rm (fun p hp => tk_lt hp)] at q
            refine q (fun j hj => ?_)
            rcases Nat.lt_succ_iff_lt_or_eq.mp hj with z | z
            · exact hI j z
            · rw [z]; exact wr_ok hl (by rw [hx]; exact hz1) (by rw [hx]; exact hz2)
          · rw [lc_eq, hT] at hz2
            refine v_iload (pc := 98) (i := 5) F dX4_wrongPair_98 rfl ?_
            refine v_ireturn (pc := 100) F dX4_wrongPair_100 (rfl) ?_
            refine ⟨?_, rfl⟩
            rw [fN_some (P := (wrP w n t SS)) (k := k) (by omega) (wr_n2 (by rw [hx]; exact hz2)) hI]
            rfl
        · rw [lc_eq] at hz1
          refine v_iload (pc := 52) (i := 5) F dX4_wrongPair_52 rfl ?_
          refine v_ireturn (pc := 54) F dX4_wrongPair_54 (rfl) ?_
          refine ⟨?_, rfl⟩
          rw [fN_some (P := (wrP w n t SS)) (k := k) (by omega) (by first | exact wr_ge (by omega) | exact wr_n1 (by rw [hx]; exact hz1)) hI]
          rfl
    · skip
      refine v_topE (y := -1) (by unfold ioI; rw [if_neg (fun z => ?_)]; obtain ⟨j, h1, h2⟩ := (inR_iff (by omega)).mp z; have := (nI_eq (by omega) (by omega)).mp h2; omega) ?_
      refine v_istore (pc := 29) (lo' := [some (.ref _), some (.ref _), some (.int _), some (.int _), some (.int _), some (.int _), some (.int _), _]) F dX4_wrongPair_29 rfl (Nat.le_of_ble_eq_true rfl) rfl ?_
      refine v_iload (pc := 31) (i := 6) F dX4_wrongPair_31 rfl ?_
      refine v_iconst (pc := 33) (v := (-1)) F dX4_wrongPair_33 (by decide) ?_
      refine v_icmp_eq (pc := 34) (tgt := 52) F dX4_wrongPair_34 (by decide) (fun h34_13 => ?_) (fun h34_13 => ?_)
      · skip
        refine v_iload (pc := 52) (i := 5) F dX4_wrongPair_52 rfl ?_
        refine v_ireturn (pc := 54) F dX4_wrongPair_54 (rfl) ?_
        refine ⟨?_, rfl⟩
        rw [fN_some (P := (wrP w n t SS)) (k := k) (by omega) (by first | exact wr_ge (by omega) | exact wr_n1 (by rw [hx]; exact hz1)) hI]
        rfl
      · skip
        exact absurd rfl h34_13

set_option maxRecDepth 100000 in
theorem c_X9_judge (s n_ : Int32) (μ ν : j_M) (hM : MI ν) (hR : Rel μ ν) : Ct yX9_judge cX9_judge 4 (some .int) 5 ΛX [.ref 0, .int s, .int n_] μ (pI fun r μ2 => r = (s_judge s n_ ν).1 ∧ Rel μ2 (s_judge s n_ ν).2) := by
  refine Ct.go (lo := [some (.ref 0), some (.int s), some (.int n_), none]) (by decide) (Nat.le_of_ble_eq_true rfl) rfl rfl (fun X F => ?_)
  have F : Fx X cX9_judge RX9 5 (some .int) ΛX := F
  obtain ⟨n, hW, hsh, htp, him⟩ := id hM
  have hn := hW.1
  have hn8 := hW.2.1
  have hnn := nn_eq hn hn8
  have ho := hW.own
  have hpw := j_pw hn8
  have hS : SQ μ 1 ν.1 n := ⟨by have := hR.sc; rwa [hnn] at this, hn8⟩
  refine v_iload_n (pc := 0) (i := 1) F dX9_judge_0 rfl rfl ?_
  refine v_callSI (pc := 1) (As := [_]) (rest := []) F mX9_isShelf kX9_75 sm_X9_isShelf dX9_judge_1 (c_X9_isShelf _ _) (by decide) rfl rfl (Nat.le_of_ble_eq_true rfl) (fun x1 μ1 hp1 => ?_)
  rw [hp1.1, hp1.2]
  refine v_if_eq (pc := 4) (tgt := 17) F dX9_judge_4 (by decide) (fun h4_2 => ?_) (fun h4_2 => ?_)
  · rw [b2i_0] at h4_2
    refine v_aload_n (pc := 17) (i := 0) F dX9_judge_17 rfl rfl ?_
    refine v_bipush (pc := 18) (v := (-2)) F dX9_judge_18 (by decide) ?_
    refine v_callVI (pc := 20) (As := [_]) (rest := []) (c := 9) F mX9_refuse kX9_79 im_X9_refuse se_X9_refuse dX9_judge_20 rfl rfl (by decide) (c_X9_refuse (-2) 2 (by decide) (by decide) (by decide) _) (by decide) rfl rfl (Nat.le_of_ble_eq_true rfl) lx0 (fun x3 μ3 hp3 => ?_)
    rw [hp3.1, hp3.2]
    refine v_ireturn (pc := 23) F dX9_judge_23 (rfl) ?_
    simp only [s_judge, rj, hnn, h4_2, ↓reduceIte]
    refine ⟨?_, ?_⟩ <;> first | exact trivial | exact rfl | exact hR | exact Rel.rj hM hR (by decide)
  · rw [b2i_0] at h4_2
    rw [Classical.not_not] at h4_2
    obtain ⟨k_s, hk_s, he_s⟩ := inR_of (by decide) h4_2
    subst he_s
    have ek_s : ix (nI k_s) = k_s := nI_clamp (by omega)
    by_cases hq_n_ : inQ 21 n_ = true
    · skip
      obtain ⟨k_n_, hk_n_, he_n_⟩ := inR_of (by decide) hq_n_
      subst he_n_
      have ek_n_ : ix (nI k_n_) = k_n_ := nI_clamp (by omega)
      refine v_iload_n (pc := 7) (i := 2) F dX9_judge_7 rfl rfl ?_
      refine v_if_lt (pc := 8) (tgt := 17) F dX9_judge_8 (by decide) (fun h8_4 => ?_) (fun h8_4 => ?_)
      · rw [j_lt0 (by omega)] at h8_4
        exact h8_4.elim
      · rw [j_lt0 (by omega)] at h8_4
        refine v_iload_n (pc := 11) (i := 2) F dX9_judge_11 rfl rfl ?_
        refine v_bipush (pc := 12) (v := nI 20) F dX9_judge_12 (by decide) ?_
        refine v_icmp_le (pc := 14) (tgt := 24) F dX9_judge_14 (by decide) (fun h14_5 => ?_) (fun h14_5 => ?_)
        · rw [nI_leI (by omega) (by omega)] at h14_5
          refine v_aload_n (pc := 24) (i := 0) F dX9_judge_24 rfl rfl ?_
          refine v_getR (pc := 25) (o := 103) F fX9_66 dX9_judge_25 rfl lx0 ?_
          refine v_topR (y := 103) rfl ?_
          refine v_iload_n (pc := 28) (i := 1) F dX9_judge_28 rfl rfl ?_
          refine v_aald15N (pc := 29) (k0 := k_s) (x := 104 + 2 * k_s) F dX9_judge_29 (lx9_10 lx0) (rfl) (by omega) (by decide) (by simp only [j_ro]; first | rfl | omega | (split <;> omega)) ?_
          have ho6 : j_ob ΛX (104 + 2 * k_s) 5 := by
            have q := lxS (lx9_10 lx0) (j := k_s) (by omega)
            simp only [j_ro] at q
            exact (by first | exact q | (rw [show 104 + 2 * k_s = _ from (by first | rfl | omega)]; exact q))
          refine v_astore_n (pc := 30) (lo' := [some (.ref _), some (.int _), some (.int _), some (.ref _)]) F dX9_judge_30 rfl rfl (Nat.le_of_ble_eq_true rfl) rfl ?_
          refine v_aload_n (pc := 31) (i := 3) F dX9_judge_31 rfl rfl ?_
          refine v_callVI (pc := 32) (As := []) (rest := []) (c := 5) F mX5_isRow kX9_87 im_X5_isRow se_X5_isRow dX9_judge_32 rfl rfl (by decide) (c_X5_isRow _ ho6 _) (by decide) rfl rfl (Nat.le_of_ble_eq_true rfl) ho6 (fun x7 μ7 hp7 => ?_)
          rw [hp7.1, hp7.2]
          rw [(hR.sf k_s (by omega)).1]
          refine v_if_ne (pc := 35) (tgt := 57) F dX9_judge_35 (by decide) (fun hro => ?_) (fun hro => ?_)
          · rw [b2i_0] at hro
            rw [Classical.not_not] at hro
            obtain ⟨⟨j5, hj5, hhj⟩, m, hm, hlm⟩ := SH_row (hsh k_s (by omega)) hn8 hro
            have ekm : ix (ν.1 11 k_s) = m := by rw [hlm]; exact ix_nI (by omega)
            have hsz := ((hR.sf k_s (by omega)).2.1 hro).trans hlm
            refine v_aload_n (pc := 57) (i := 3) F dX9_judge_57 rfl rfl ?_
            refine v_getI (pc := 58) F fX9_94 dX9_judge_58 rfl ho6 ?_
            refine v_topE (y := nI m) (hsz) ?_
            refine v_iconst (pc := 61) (v := nI 2) F dX9_judge_61 (by decide) ?_
            refine v_iload_n (pc := 62) (i := 2) F dX9_judge_62 rfl rfl ?_
            refine v_imul (pc := 63) F dX9_judge_63 ?_
            refine v_topE (pk_mul _ _) ?_
            refine v_icmp_ge (pc := 64) (tgt := 74) F dX9_judge_64 (by decide) (fun hle => ?_) (fun hle => ?_)
            · rw [nI_leI (by omega) (by omega)] at hle
              refine v_aload_n (pc := 74) (i := 0) F dX9_judge_74 rfl rfl ?_
              refine v_getR (pc := 75) (o := 1) F fX9_12 dX9_judge_75 rfl lx0 ?_
              refine v_topR (y := 1) rfl ?_
              refine v_aload_n (pc := 78) (i := 3) F dX9_judge_78 rfl rfl ?_
              refine v_iload_n (pc := 79) (i := 2) F dX9_judge_79 rfl rfl ?_
              refine v_callVI (pc := 80) (As := [_, _]) (rest := []) (c := 4) F mX4_wrongPair kX9_285 im_X4_wrongPair se_X4_wrongPair dX9_judge_80 rfl rfl (by decide) (c_X4_wrongPair 1 (lx9_0 lx0) n ν.1 _ (hS) _ ho6 k_n_ (by omega) (rwT ν k_s) (SF_sz (hR.sf k_s (by omega)) (hsh k_s (by omega)) hn8) (fun i hi => by rw [elB_eq (hR.sf k_s (by omega)) (hsh k_s (by omega)) hn8, if_pos hro, if_pos ((inR_iff (by omega)).mpr ⟨i, by omega, rfl⟩), ix_nI (by omega)]) hW) (by decide) rfl rfl (Nat.le_of_ble_eq_true rfl) (lx9_0 lx0) (fun x10 μ10 hp10 => ?_)
              rw [hp10.1, hp10.2]
              refine v_ireturn (pc := 83) F dX9_judge_83 (rfl) ?_
              simp only [s_judge, rj, hnn, h4_2, ek_s, hq_n_, ek_n_, h8_4, h14_5, hro, hle, ↓reduceIte]
              rw [if_neg (by omega)]
              exact ⟨rfl, hR⟩
            · rw [nI_leI (by omega) (by omega)] at hle
              refine v_aload_n (pc := 67) (i := 0) F dX9_judge_67 rfl rfl ?_
              refine v_bipush (pc := 68) (v := (-2)) F dX9_judge_68 (by decide) ?_
              refine v_callVI (pc := 70) (As := [_]) (rest := []) (c := 9) F mX9_refuse kX9_79 im_X9_refuse se_X9_refuse dX9_judge_70 rfl rfl (by decide) (c_X9_refuse (-2) 2 (by decide) (by decide) (by decide) _) (by decide) rfl rfl (Nat.le_of_ble_eq_true rfl) lx0 (fun x11 μ11 hp11 => ?_)
              rw [hp11.1, hp11.2]
              refine v_ireturn (pc := 73) F dX9_judge_73 (rfl) ?_
              simp only [s_judge, rj, hnn, h4_2, ek_s, hq_n_, ek_n_, h8_4, h14_5, hro, hle, ↓reduceIte]
              rw [if_pos (by omega)]
              exact ⟨rfl, Rel.rj hM hR (by decide)⟩
          · rw [b2i_0] at hro
            refine v_aload_n (pc := 38) (i := 0) F dX9_judge_38 rfl rfl ?_
            refine v_aload_n (pc := 39) (i := 3) F dX9_judge_39 rfl rfl ?_
            refine v_callVI (pc := 40) (As := []) (rest := [_]) (c := 5) F mX5_isNothing kX9_91 im_X5_isNothing se_X5_isNothing dX9_judge_40 rfl rfl (by decide) (c_X5_isNothing _ ho6 _) (by decide) rfl rfl (Nat.le_of_ble_eq_true rfl) ho6 (fun x12 μ12 hp12 => ?_)
            rw [hp12.1, hp12.2]
            rw [(hR.sf k_s (by omega)).1]
            refine v_if_eq (pc := 43) (tgt := 51) F dX9_judge_43 (by decide) (fun hno => ?_) (fun hno => ?_)
            · rw [b2i_0] at hno
              refine v_bipush (pc := 51) (v := (-3)) F dX9_judge_51 (by decide) ?_
              refine v_callVI (pc := 53) (As := [_]) (rest := []) (c := 9) F mX9_refuse kX9_79 im_X9_refuse se_X9_refuse dX9_judge_53 rfl rfl (by decide) (c_X9_refuse (-3) 3 (by decide) (by decide) (by decide) _) (by decide) rfl rfl (Nat.le_of_ble_eq_true rfl) lx0 (fun x14 μ14 hp14 => ?_)
              rw [hp14.1, hp14.2]
              refine v_ireturn (pc := 56) F dX9_judge_56 (rfl) ?_
              simp only [s_judge, rj, hnn, h4_2, ek_s, hq_n_, ek_n_, h8_4, h14_5, hro, hno, hro, hno, ↓reduceIte]
              refine ⟨?_, ?_⟩ <;> first | exact trivial | exact rfl | exact Rel.rj hM hR (by decide)
            · rw [b2i_0] at hno
              rw [Classical.not_not] at hno
              refine v_bipush (pc := 46) (v := (-4)) F dX9_judge_46 (by decide) ?_
              refine v_goto (pc := 48) (tgt := 53) F dX9_judge_48 (by decide) ?_
              refine v_callVI (pc := 53) (As := [_]) (rest := []) (c := 9) F mX9_refuse kX9_79 im_X9_refuse se_X9_refuse dX9_judge_53 rfl rfl (by decide) (c_X9_refuse (-4) 4 (by decide) (by decide) (by decide) _) (by decide) rfl rfl (Nat.le_of_ble_eq_true rfl) lx0 (fun x15 μ15 hp15 => ?_)
              rw [hp15.1, hp15.2]
              refine v_ireturn (pc := 56) F dX9_judge_56 (rfl) ?_
              simp only [s_judge, rj, hnn, h4_2, ek_s, hq_n_, ek_n_, h8_4, h14_5, hro, hno, hro, hno, ↓reduceIte]
              refine ⟨?_, ?_⟩ <;> first | exact trivial | exact rfl | exact Rel.rj hM hR (by decide)
        · rw [nI_leI (by omega) (by omega)] at h14_5
          omega
    · skip
      refine v_iload_n (pc := 7) (i := 2) F dX9_judge_7 rfl rfl ?_
      refine v_if_lt (pc := 8) (tgt := 17) F dX9_judge_8 (by decide) (fun hneg_n_ => ?_) (fun hneg_n_ => ?_)
      · skip
        refine v_aload_n (pc := 17) (i := 0) F dX9_judge_17 rfl rfl ?_
        refine v_bipush (pc := 18) (v := (-2)) F dX9_judge_18 (by decide) ?_
        refine v_callVI (pc := 20) (As := [_]) (rest := []) (c := 9) F mX9_refuse kX9_79 im_X9_refuse se_X9_refuse dX9_judge_20 rfl rfl (by decide) (c_X9_refuse (-2) 2 (by decide) (by decide) (by decide) _) (by decide) rfl rfl (Nat.le_of_ble_eq_true rfl) lx0 (fun x17 μ17 hp17 => ?_)
        rw [hp17.1, hp17.2]
        refine v_ireturn (pc := 23) F dX9_judge_23 (rfl) ?_
        simp only [s_judge, rj, hnn, h4_2, ek_s, hq_n_, hneg_n_, ↓reduceIte]
        refine ⟨?_, ?_⟩ <;> first | exact trivial | exact rfl | exact hR | exact Rel.rj hM hR (by decide)
      · skip
        refine v_iload_n (pc := 11) (i := 2) F dX9_judge_11 rfl rfl ?_
        refine v_bipush (pc := 12) (v := nI 20) F dX9_judge_12 (by decide) ?_
        refine v_icmp_le (pc := 14) (tgt := 24) F dX9_judge_14 (by decide) (fun h14_18 => ?_) (fun h14_18 => ?_)
        · skip
          exact (inQ_no2 rfl (by decide) hq_n_ hneg_n_ h14_18).elim
        · skip
          refine v_aload_n (pc := 17) (i := 0) F dX9_judge_17 rfl rfl ?_
          refine v_bipush (pc := 18) (v := (-2)) F dX9_judge_18 (by decide) ?_
          refine v_callVI (pc := 20) (As := [_]) (rest := []) (c := 9) F mX9_refuse kX9_79 im_X9_refuse se_X9_refuse dX9_judge_20 rfl rfl (by decide) (c_X9_refuse (-2) 2 (by decide) (by decide) (by decide) _) (by decide) rfl rfl (Nat.le_of_ble_eq_true rfl) lx0 (fun x19 μ19 hp19 => ?_)
          rw [hp19.1, hp19.2]
          refine v_ireturn (pc := 23) F dX9_judge_23 (rfl) ?_
          simp only [s_judge, rj, hnn, h4_2, ek_s, hq_n_, hneg_n_, h14_18, ↓reduceIte]
          refine ⟨?_, ?_⟩ <;> first | exact trivial | exact rfl | exact hR | exact Rel.rj hM hR (by decide)
