/-! the class: trials -/
abbrev P8 (x c j : Nat) : Prop := x ≤ c ∧ c ≤ x + 25
theorem WI_kd {w : Nat → Nat → Int32} {n l v : Nat} (h : WI w n) (hv : v < 6) : WI (kd w l v) n := ⟨h.1, h.2.1, h.2.2.1, fun i hi => ⟨by
  by_cases e : i = l
  · subst e; exact ⟨v, hv, if_pos ⟨rfl, rfl⟩⟩
  · rw [show kd w l v 2 i = w 2 i from if_neg (fun z => e z.2)]; exact h.k hi, h.a hi, h.sh hi⟩⟩
theorem WI_ow {w : Nat → Nat → Int32} {n l v : Nat} (h : WI w n) (hv : v < 8) : WI (ow w l v) n := ⟨h.1, h.2.1, h.2.2.1, fun i hi => ⟨h.k hi, by
  by_cases e : i = l
  · subst e; exact ⟨v, hv, if_pos ⟨rfl, rfl⟩⟩
  · rw [show ow w l v 3 i = w 3 i from if_neg (fun z => e z.2)]; exact h.a hi, h.sh hi⟩⟩
theorem WI_ag {w : Nat → Nat → Int32} {n l v : Nat} (h : WI w n) : WI (ag w l v) n := ⟨h.1, h.2.1, h.2.2.1, fun i hi => ⟨h.k hi, h.a hi, h.sh hi⟩⟩
theorem WI_ex {w : Nat → Nat → Int32} {n x y : Nat} (h : WI w n) : WI (ex w x y) n := ⟨h.1, h.2.1, h.2.2.1, fun i hi => ⟨h.k hi, h.a hi, h.sh hi⟩⟩
theorem lK_some {P : Nat → Bool} {g : Nat} (hg : P g = true) : ∀ {N : Nat}, g < N → (∀ i, g < i → i < N → ¬ P i = true) → lK P N = some g := by
  intro N
  induction N with
  | zero => intro h; omega
  | succ N ih =>
    intro h h2
    by_cases e : g = N
    · subst e; exact if_pos hg
    · show (if P N = true then some N else lK P N) = _
      rw [if_neg (h2 N (by omega) (by omega))]
      exact ih (by omega) (fun i a b => h2 i a (by omega))
theorem lK_none {P : Nat → Bool} : ∀ {N : Nat}, (∀ i, i < N → ¬ P i = true) → lK P N = none := by
  intro N
  induction N with
  | zero => intro _; rfl
  | succ N ih =>
    intro h
    show (if P N = true then some N else lK P N) = _
    rw [if_neg (h N (by omega))]
    exact ih (fun i a => h i (by omega))

set_option maxRecDepth 100000 in
theorem c_X8_kindsTaking (x : Nat) (hx : j_ob ΛX x 8) (b : Nat) (hb : j_ob ΛX b 4) (n : Nat) (w : Nat → Nat → Int32) (μ : j_M) (hS : SQ μ b w n) (hW : WI w n) (hxb : x + 26 ≤ b ∨ b + 21 ≤ x) (set : Int32) (l : Nat) (hl : l < n) (taken : Int32) : Ct yX8_kindsTaking cX8_kindsTaking 7 (some .int) 5 ΛX [.ref x, .ref b, .int set, .int (nI l), .int taken] μ (pI fun r μ2 => r = bK (fun v => bl (tE (kd w l v) n set l) == taken) 6 ∧ Fm (P8 x) μ μ2) := by
  refine Ct.go (lo := [some (.ref x), some (.ref b), some (.int set), some (.int (nI l)), some (.int taken), none, none]) (by decide) (Nat.le_of_ble_eq_true rfl) rfl rfl (fun X F => ?_)
  have F : Fx X cX8_kindsTaking RX8 5 (some .int) ΛX := F
  have hn8 := hS.2
  have hpw := j_pw hn8
  refine v_aload_n (pc := 0) (i := 0) F dX8_kindsTaking_0 rfl rfl ?_
  refine v_getR (pc := 1) (o := 1) F fX8_12 dX8_kindsTaking_1 rfl hx ?_
  refine v_topR (y := x + 1) rfl ?_
  refine v_aload_n (pc := 4) (i := 1) F dX8_kindsTaking_4 rfl rfl ?_
  refine v_callVV (pc := 5) (As := [_]) (rest := []) (c := 4) F mX4_become kX8_32 im_X4_become se_X4_become dX8_kindsTaking_5 rfl rfl (by decide) (c_X4_become (x + 1) (lx8_0 hx) b hb n w _ (hS) (by omega)) (by decide) rfl rfl (Nat.le_of_ble_eq_true rfl) (lx8_0 hx) (fun μ1 hp1 => ?_)
  skip
  refine v_iconst (pc := 8) (v := nI 0) F dX8_kindsTaking_8 (by decide) ?_
  refine v_istore (pc := 9) (lo' := [some (.ref _), some (.ref _), some (.int _), some (.int _), some (.int _), some (.int _), _]) F dX8_kindsTaking_9 rfl (Nat.le_of_ble_eq_true rfl) rfl ?_
  refine v_iconst (pc := 11) (v := nI 0) F dX8_kindsTaking_11 (by decide) ?_
  refine v_istore (pc := 12) (lo' := [some (.ref _), some (.ref _), some (.int _), some (.int _), some (.int _), some (.int _), some (.int _)]) F dX8_kindsTaking_12 rfl (Nat.le_of_ble_eq_true rfl) rfl ?_
  refine j_up 6 (fun k => ∀ μ' : j_M, (Fm (P8 x) μ μ' ∧ ∃ W, SQ μ' (x + 1) W n ∧ ∀ c j, ¬ (c = 2 ∧ j = l) → W c j = w c j) → V X _ 14 [some (.ref x), some (.ref b), some (.int set), some (.int (nI l)), some (.int taken), some (.int ((bK (fun v => bl (tE (kd w l v) n set l) == taken) k))), some (.int (nI k))] [] μ') (fun k hk ih μ' hI => ?_) 0 (Nat.zero_le _) _ (⟨hp1.2.mono (fun c j z => by omega), w, hp1.1, fun _ _ _ => rfl⟩)
  refine v_iload (pc := 14) (i := 6) F dX8_kindsTaking_14 rfl ?_
  obtain ⟨Wt, hWs, hWw⟩ := hI.2
  refine v_bipush (pc := 16) (v := nI 6) F dX8_kindsTaking_16 (by decide) ?_
  refine v_icmp_ge (pc := 18) (tgt := 83) F dX8_kindsTaking_18 (by decide) (fun h18_2 => ?_) (fun h18_2 => ?_)
  · rw [nI_leI (by omega) (by omega)] at h18_2
    refine v_iload (pc := 83) (i := 5) F dX8_kindsTaking_83 rfl ?_
    refine v_ireturn (pc := 85) F dX8_kindsTaking_85 (rfl) ?_
    have e : k = 6 := by omega
    subst e
    exact ⟨rfl, hI.1⟩
  · rw [nI_leI (by omega) (by omega)] at h18_2
    refine v_aload_n (pc := 21) (i := 0) F dX8_kindsTaking_21 rfl rfl ?_
    refine v_getR (pc := 22) (o := 1) F fX8_12 dX8_kindsTaking_22 rfl hx ?_
    refine v_topR (y := x + 1) rfl ?_
    refine v_getR (pc := 25) (o := 3) F fX8_44 dX8_kindsTaking_25 rfl (lx8_0 hx) ?_
    refine v_topR (y := x + 4) rfl ?_
    refine v_iload_n (pc := 28) (i := 3) F dX8_kindsTaking_28 rfl rfl ?_
    refine v_aald14N (pc := 29) (k0 := l) (x := x + 6 + 2 * l) F dX8_kindsTaking_29 (lx4_2 (lx8_0 hx)) (rfl) (by omega) (by decide) (by simp only [j_ro]; first | rfl | omega | (split <;> omega)) ?_
    have ho3 : j_ob ΛX (x + 6 + 2 * l) 3 := by
      have q := lxL (lx4_2 (lx8_0 hx)) (j := l) (by omega)
      simp only [j_ro] at q
      exact (by first | exact q | (rw [show x + 6 + 2 * l = _ from (by first | rfl | omega)]; exact q))
    refine v_iload (pc := 30) (i := 6) F dX8_kindsTaking_30 rfl ?_
    refine v_put (pc := 32) F fX8_77 dX8_kindsTaking_32 rfl rfl rfl ho3 ?_
    have hS2 : SQ (j_pI μ' (x + 6 + 2 * l) 1 (nI k)) (x + 1) (kd w l k) n := ⟨by
      have q := hWs.1.pk (l := l) (j := 1) (v := nI k) hn8 hl (by omega) (by omega) (by omega)
      have e : (fun c i => if c = 1 + 1 ∧ i = l then nI k else Wt c i) = kd w l k := by
        funext c i
        show (if c = 1 + 1 ∧ i = l then nI k else Wt c i) = (if c = 2 ∧ i = l then nI k else w c i)
        by_cases z : c = 2 ∧ i = l
        · rw [if_pos z, if_pos z]
        · rw [if_neg z, if_neg z]; exact hWw c i z
      rw [e] at q
      exact q, hn8⟩
    refine v_aload_n (pc := 35) (i := 0) F dX8_kindsTaking_35 rfl rfl ?_
    refine v_getR (pc := 36) (o := 22) F fX8_21 dX8_kindsTaking_36 rfl hx ?_
    refine v_topR (y := x + 22) rfl ?_
    refine v_aload_n (pc := 39) (i := 0) F dX8_kindsTaking_39 rfl rfl ?_
    refine v_getR (pc := 40) (o := 1) F fX8_12 dX8_kindsTaking_40 rfl hx ?_
    refine v_topR (y := x + 1) rfl ?_
    refine v_iload_n (pc := 43) (i := 2) F dX8_kindsTaking_43 rfl rfl ?_
    refine v_aload_n (pc := 44) (i := 0) F dX8_kindsTaking_44 rfl rfl ?_
    refine v_getR (pc := 45) (o := 1) F fX8_12 dX8_kindsTaking_45 rfl hx ?_
    refine v_topR (y := x + 1) rfl ?_
    refine v_getI (pc := 48) F fX8_63 dX8_kindsTaking_48 rfl (lx8_0 hx) ?_
    refine v_topE (y := (lfB ((kd w l k) 1))) (hS2.1.fil) ?_
    refine v_callVV (pc := 51) (As := [_, _, _]) (rest := []) (c := 2) F mX2_run kX8_66 im_X2_run se_X2_run dX8_kindsTaking_51 rfl rfl (by decide) (c_X2_run (x + 22) (lx8_1 hx) (x + 1) (lx8_0 hx) n ((kd w l k)) _ (hS2) (WI_kd hW (by omega)) set ((kd w l k) 1) UU.self (by omega)) (by decide) rfl rfl (Nat.le_of_ble_eq_true rfl) (lx8_1 hx) (fun μ4 hp4 => ?_)
    skip
    refine v_aload_n (pc := 54) (i := 0) F dX8_kindsTaking_54 rfl rfl ?_
    refine v_getR (pc := 55) (o := 22) F fX8_21 dX8_kindsTaking_55 rfl hx ?_
    refine v_topR (y := x + 22) rfl ?_
    refine v_getR (pc := 58) (o := 1) F fX8_80 dX8_kindsTaking_58 rfl (lx8_1 hx) ?_
    refine v_topR (y := x + 23) rfl ?_
    refine v_iload_n (pc := 61) (i := 3) F dX8_kindsTaking_61 rfl rfl ?_
    refine v_ialdN (pc := 62) (k0 := l) F dX8_kindsTaking_62 (lx2_0 (lx8_1 hx)) (rfl) (by omega) (by decide) ?_
    refine v_topE (y := (bl (tE ((kd w l k)) n set l))) (hp4.2.2.1 l (by omega)) ?_
    refine v_iload (pc := 63) (i := 4) F dX8_kindsTaking_63 rfl ?_
    refine v_icmp_ne (pc := 65) (tgt := 77) F dX8_kindsTaking_65 (by decide) (fun hc => ?_) (fun hc => ?_)
    · skip
      refine v_iinc (pc := 77) (i := 6) (v := nI (k + 1)) (lo' := [some (.ref _), some (.ref _), some (.int _), some (.int _), some (.int _), some (.int _), some (.int _)]) F dX8_kindsTaking_77 rfl (j_inc _) rfl rfl ?_
      refine v_goto (pc := 80) (tgt := 14) F dX8_kindsTaking_80 (by decide) ?_
      have q := ih (by omega)
      rw [bK_f (k := k) (by simpa using hc)] at q
      exact q _ ⟨(hI.1.pI (by omega)).tr (hp4.1.mono (fun c j z => by omega)), kd w l k, SQ_F hS2 hp4.1 (fun c j z => by omega), fun c j z => if_neg z⟩
    · skip
      refine v_iload (pc := 68) (i := 5) F dX8_kindsTaking_68 rfl ?_
      refine v_iconst (pc := 70) (v := nI 1) F dX8_kindsTaking_70 (by decide) ?_
      refine v_iload (pc := 71) (i := 6) F dX8_kindsTaking_71 rfl ?_
      refine v_ishl (pc := 73) F dX8_kindsTaking_73 ?_
      refine v_ior (pc := 74) F dX8_kindsTaking_74 ?_
      refine v_istore (pc := 75) (lo' := [some (.ref _), some (.ref _), some (.int _), some (.int _), some (.int _), some (.int _), some (.int _)]) F dX8_kindsTaking_75 rfl (Nat.le_of_ble_eq_true rfl) rfl ?_
      refine v_iinc (pc := 77) (i := 6) (v := nI (k + 1)) (lo' := [some (.ref _), some (.ref _), some (.int _), some (.int _), some (.int _), some (.int _), some (.int _)]) F dX8_kindsTaking_77 rfl (j_inc _) rfl rfl ?_
      refine v_goto (pc := 80) (tgt := 14) F dX8_kindsTaking_80 (by decide) ?_
      have q := ih (by omega)
      rw [bK_t (k := k) (by simpa using hc)] at q
      exact q _ ⟨(hI.1.pI (by omega)).tr (hp4.1.mono (fun c j z => by omega)), kd w l k, SQ_F hS2 hp4.1 (fun c j z => by omega), fun c j z => if_neg z⟩

set_option maxRecDepth 100000 in
theorem c_X8_wishesTaking (x : Nat) (hx : j_ob ΛX x 8) (b : Nat) (hb : j_ob ΛX b 4) (n : Nat) (w : Nat → Nat → Int32) (μ : j_M) (hS : SQ μ b w n) (hW : WI w n) (hxb : x + 26 ≤ b ∨ b + 21 ≤ x) (set : Int32) (l : Nat) (hl : l < n) (taken : Int32) : Ct yX8_wishesTaking cX8_wishesTaking 7 (some .int) 5 ΛX [.ref x, .ref b, .int set, .int (nI l), .int taken] μ (pI fun r μ2 => r = bK (fun v => bl (tE (ow w l v) n set l) == taken) 8 ∧ Fm (P8 x) μ μ2) := by
  refine Ct.go (lo := [some (.ref x), some (.ref b), some (.int set), some (.int (nI l)), some (.int taken), none, none]) (by decide) (Nat.le_of_ble_eq_true rfl) rfl rfl (fun X F => ?_)
  have F : Fx X cX8_wishesTaking RX8 5 (some .int) ΛX := F
  have hn8 := hS.2
  have hpw := j_pw hn8
  refine v_aload_n (pc := 0) (i := 0) F dX8_wishesTaking_0 rfl rfl ?_
  refine v_getR (pc := 1) (o := 1) F fX8_12 dX8_wishesTaking_1 rfl hx ?_
  refine v_topR (y := x + 1) rfl ?_
  refine v_aload_n (pc := 4) (i := 1) F dX8_wishesTaking_4 rfl rfl ?_
  refine v_callVV (pc := 5) (As := [_]) (rest := []) (c := 4) F mX4_become kX8_32 im_X4_become se_X4_become dX8_wishesTaking_5 rfl rfl (by decide) (c_X4_become (x + 1) (lx8_0 hx) b hb n w _ (hS) (by omega)) (by decide) rfl rfl (Nat.le_of_ble_eq_true rfl) (lx8_0 hx) (fun μ1 hp1 => ?_)
  skip
  refine v_iconst (pc := 8) (v := nI 0) F dX8_wishesTaking_8 (by decide) ?_
  refine v_istore (pc := 9) (lo' := [some (.ref _), some (.ref _), some (.int _), some (.int _), some (.int _), some (.int _), _]) F dX8_wishesTaking_9 rfl (Nat.le_of_ble_eq_true rfl) rfl ?_
  refine v_iconst (pc := 11) (v := nI 0) F dX8_wishesTaking_11 (by decide) ?_
  refine v_istore (pc := 12) (lo' := [some (.ref _), some (.ref _), some (.int _), some (.int _), some (.int _), some (.int _), some (.int _)]) F dX8_wishesTaking_12 rfl (Nat.le_of_ble_eq_true rfl) rfl ?_
  refine j_up 8 (fun k => ∀ μ' : j_M, (Fm (P8 x) μ μ' ∧ ∃ W, SQ μ' (x + 1) W n ∧ ∀ c j, ¬ (c = 3 ∧ j = l) → W c j = w c j) → V X _ 14 [some (.ref x), some (.ref b), some (.int set), some (.int (nI l)), some (.int taken), some (.int ((bK (fun v => bl (tE (ow w l v) n set l) == taken) k))), some (.int (nI k))] [] μ') (fun k hk ih μ' hI => ?_) 0 (Nat.zero_le _) _ (⟨hp1.2.mono (fun c j z => by omega), w, hp1.1, fun _ _ _ => rfl⟩)
  refine v_iload (pc := 14) (i := 6) F dX8_wishesTaking_14 rfl ?_
  obtain ⟨Wt, hWs, hWw⟩ := hI.2
  refine v_bipush (pc := 16) (v := nI 8) F dX8_wishesTaking_16 (by decide) ?_
  refine v_icmp_ge (pc := 18) (tgt := 83) F dX8_wishesTaking_18 (by decide) (fun h18_2 => ?_) (fun h18_2 => ?_)
  · rw [nI_leI (by omega) (by omega)] at h18_2
    refine v_iload (pc := 83) (i := 5) F dX8_wishesTaking_83 rfl ?_
    refine v_ireturn (pc := 85) F dX8_wishesTaking_85 (rfl) ?_
    have e : k = 8 := by omega
    subst e
    exact ⟨rfl, hI.1⟩
  · rw [nI_leI (by omega) (by omega)] at h18_2
    refine v_aload_n (pc := 21) (i := 0) F dX8_wishesTaking_21 rfl rfl ?_
    refine v_getR (pc := 22) (o := 1) F fX8_12 dX8_wishesTaking_22 rfl hx ?_
    refine v_topR (y := x + 1) rfl ?_
    refine v_getR (pc := 25) (o := 3) F fX8_44 dX8_wishesTaking_25 rfl (lx8_0 hx) ?_
    refine v_topR (y := x + 4) rfl ?_
    refine v_iload_n (pc := 28) (i := 3) F dX8_wishesTaking_28 rfl rfl ?_
    refine v_aald14N (pc := 29) (k0 := l) (x := x + 6 + 2 * l) F dX8_wishesTaking_29 (lx4_2 (lx8_0 hx)) (rfl) (by omega) (by decide) (by simp only [j_ro]; first | rfl | omega | (split <;> omega)) ?_
    have ho3 : j_ob ΛX (x + 6 + 2 * l) 3 := by
      have q := lxL (lx4_2 (lx8_0 hx)) (j := l) (by omega)
      simp only [j_ro] at q
      exact (by first | exact q | (rw [show x + 6 + 2 * l = _ from (by first | rfl | omega)]; exact q))
    refine v_iload (pc := 30) (i := 6) F dX8_wishesTaking_30 rfl ?_
    refine v_put (pc := 32) F fX8_48 dX8_wishesTaking_32 rfl rfl rfl ho3 ?_
    have hS2 : SQ (j_pI μ' (x + 6 + 2 * l) 2 (nI k)) (x + 1) (ow w l k) n := ⟨by
      have q := hWs.1.pk (l := l) (j := 2) (v := nI k) hn8 hl (by omega) (by omega) (by omega)
      have e : (fun c i => if c = 2 + 1 ∧ i = l then nI k else Wt c i) = ow w l k := by
        funext c i
        show (if c = 2 + 1 ∧ i = l then nI k else Wt c i) = (if c = 3 ∧ i = l then nI k else w c i)
        by_cases z : c = 3 ∧ i = l
        · rw [if_pos z, if_pos z]
        · rw [if_neg z, if_neg z]; exact hWw c i z
      rw [e] at q
      exact q, hn8⟩
    refine v_aload_n (pc := 35) (i := 0) F dX8_wishesTaking_35 rfl rfl ?_
    refine v_getR (pc := 36) (o := 22) F fX8_21 dX8_wishesTaking_36 rfl hx ?_
    refine v_topR (y := x + 22) rfl ?_
    refine v_aload_n (pc := 39) (i := 0) F dX8_wishesTaking_39 rfl rfl ?_
    refine v_getR (pc := 40) (o := 1) F fX8_12 dX8_wishesTaking_40 rfl hx ?_
    refine v_topR (y := x + 1) rfl ?_
    refine v_iload_n (pc := 43) (i := 2) F dX8_wishesTaking_43 rfl rfl ?_
    refine v_aload_n (pc := 44) (i := 0) F dX8_wishesTaking_44 rfl rfl ?_
    refine v_getR (pc := 45) (o := 1) F fX8_12 dX8_wishesTaking_45 rfl hx ?_
    refine v_topR (y := x + 1) rfl ?_
    refine v_getI (pc := 48) F fX8_63 dX8_wishesTaking_48 rfl (lx8_0 hx) ?_
    refine v_topE (y := (lfB ((ow w l k) 1))) (hS2.1.fil) ?_
    refine v_callVV (pc := 51) (As := [_, _, _]) (rest := []) (c := 2) F mX2_run kX8_66 im_X2_run se_X2_run dX8_wishesTaking_51 rfl rfl (by decide) (c_X2_run (x + 22) (lx8_1 hx) (x + 1) (lx8_0 hx) n ((ow w l k)) _ (hS2) (WI_ow hW (by omega)) set ((ow w l k) 1) UU.self (by omega)) (by decide) rfl rfl (Nat.le_of_ble_eq_true rfl) (lx8_1 hx) (fun μ4 hp4 => ?_)
    skip
    refine v_aload_n (pc := 54) (i := 0) F dX8_wishesTaking_54 rfl rfl ?_
    refine v_getR (pc := 55) (o := 22) F fX8_21 dX8_wishesTaking_55 rfl hx ?_
    refine v_topR (y := x + 22) rfl ?_
    refine v_getR (pc := 58) (o := 1) F fX8_80 dX8_wishesTaking_58 rfl (lx8_1 hx) ?_
    refine v_topR (y := x + 23) rfl ?_
    refine v_iload_n (pc := 61) (i := 3) F dX8_wishesTaking_61 rfl rfl ?_
    refine v_ialdN (pc := 62) (k0 := l) F dX8_wishesTaking_62 (lx2_0 (lx8_1 hx)) (rfl) (by omega) (by decide) ?_
    refine v_topE (y := (bl (tE ((ow w l k)) n set l))) (hp4.2.2.1 l (by omega)) ?_
    refine v_iload (pc := 63) (i := 4) F dX8_wishesTaking_63 rfl ?_
    refine v_icmp_ne (pc := 65) (tgt := 77) F dX8_wishesTaking_65 (by decide) (fun hc => ?_) (fun hc => ?_)
    · skip
      refine v_iinc (pc := 77) (i := 6) (v := nI (k + 1)) (lo' := [some (.ref _), some (.ref _), some (.int _), some (.int _), some (.int _), some (.int _), some (.int _)]) F dX8_wishesTaking_77 rfl (j_inc _) rfl rfl ?_
      refine v_goto (pc := 80) (tgt := 14) F dX8_wishesTaking_80 (by decide) ?_
      have q := ih (by omega)
      rw [bK_f (k := k) (by simpa using hc)] at q
      exact q _ ⟨(hI.1.pI (by omega)).tr (hp4.1.mono (fun c j z => by omega)), ow w l k, SQ_F hS2 hp4.1 (fun c j z => by omega), fun c j z => if_neg z⟩
    · skip
      refine v_iload (pc := 68) (i := 5) F dX8_wishesTaking_68 rfl ?_
      refine v_iconst (pc := 70) (v := nI 1) F dX8_wishesTaking_70 (by decide) ?_
      refine v_iload (pc := 71) (i := 6) F dX8_wishesTaking_71 rfl ?_
      refine v_ishl (pc := 73) F dX8_wishesTaking_73 ?_
      refine v_ior (pc := 74) F dX8_wishesTaking_74 ?_
      refine v_istore (pc := 75) (lo' := [some (.ref _), some (.ref _), some (.int _), some (.int _), some (.int _), some (.int _), some (.int _)]) F dX8_wishesTaking_75 rfl (Nat.le_of_ble_eq_true rfl) rfl ?_
      refine v_iinc (pc := 77) (i := 6) (v := nI (k + 1)) (lo' := [some (.ref _), some (.ref _), some (.int _), some (.int _), some (.int _), some (.int _), some (.int _)]) F dX8_wishesTaking_77 rfl (j_inc _) rfl rfl ?_
      refine v_goto (pc := 80) (tgt := 14) F dX8_wishesTaking_80 (by decide) ?_
      have q := ih (by omega)
      rw [bK_t (k := k) (by simpa using hc)] at q
      exact q _ ⟨(hI.1.pI (by omega)).tr (hp4.1.mono (fun c j z => by omega)), ow w l k, SQ_F hS2 hp4.1 (fun c j z => by omega), fun c j z => if_neg z⟩

set_option maxRecDepth 100000 in
theorem c_X8_gladExchanged (x : Nat) (hx : j_ob ΛX x 8) (b : Nat) (hb : j_ob ΛX b 4) (n : Nat) (w : Nat → Nat → Int32) (μ : j_M) (hS : SQ μ b w n) (hW : WI w n) (hxb : x + 26 ≤ b ∨ b + 21 ≤ x) (l o : Nat) (hl : l < n) (ho : o < n) : Ct yX8_gladExchanged cX8_gladExchanged 4 (some .int) 5 ΛX [.ref x, .ref b, .int (nI l), .int (nI o)] μ (pI fun r μ2 => r = nI (gnE (ex w l o) n (alI n)) ∧ Fm (P8 x) μ μ2) := by
  refine Ct.go (lo := [some (.ref x), some (.ref b), some (.int (nI l)), some (.int (nI o))]) (by decide) (Nat.le_of_ble_eq_true rfl) rfl rfl (fun X F => ?_)
  have F : Fx X cX8_gladExchanged RX8 5 (some .int) ΛX := F
  have hn8 := hS.2
  have hpw := j_pw hn8
  refine v_aload_n (pc := 0) (i := 0) F dX8_gladExchanged_0 rfl rfl ?_
  refine v_getR (pc := 1) (o := 1) F fX8_12 dX8_gladExchanged_1 rfl hx ?_
  refine v_topR (y := x + 1) rfl ?_
  refine v_aload_n (pc := 4) (i := 1) F dX8_gladExchanged_4 rfl rfl ?_
  refine v_callVV (pc := 5) (As := [_]) (rest := []) (c := 4) F mX4_become kX8_32 im_X4_become se_X4_become dX8_gladExchanged_5 rfl rfl (by decide) (c_X4_become (x + 1) (lx8_0 hx) b hb n w _ (hS) (by omega)) (by decide) rfl rfl (Nat.le_of_ble_eq_true rfl) (lx8_0 hx) (fun μ1 hp1 => ?_)
  skip
  refine v_aload_n (pc := 8) (i := 0) F dX8_gladExchanged_8 rfl rfl ?_
  refine v_getR (pc := 9) (o := 1) F fX8_12 dX8_gladExchanged_9 rfl hx ?_
  refine v_topR (y := x + 1) rfl ?_
  refine v_iload_n (pc := 12) (i := 2) F dX8_gladExchanged_12 rfl rfl ?_
  refine v_aload_n (pc := 13) (i := 1) F dX8_gladExchanged_13 rfl rfl ?_
  refine v_getR (pc := 14) (o := 3) F fX8_44 dX8_gladExchanged_14 rfl hb ?_
  refine v_topR (y := b + 3) rfl ?_
  refine v_iload_n (pc := 17) (i := 3) F dX8_gladExchanged_17 rfl rfl ?_
  refine v_aald14N (pc := 18) (k0 := o) (x := b + 5 + 2 * o) F dX8_gladExchanged_18 (lx4_2 hb) (rfl) (by omega) (by decide) (by simp only [j_ro]; first | rfl | omega | (split <;> omega)) ?_
  have ho2 : j_ob ΛX (b + 5 + 2 * o) 3 := by
    have q := lxL (lx4_2 hb) (j := o) (by omega)
    simp only [j_ro] at q
    exact (by first | exact q | (rw [show b + 5 + 2 * o = _ from (by first | rfl | omega)]; exact q))
  refine v_getI (pc := 19) F fX8_83 dX8_gladExchanged_19 rfl ho2 ?_
  refine v_topE (y := (w 4 o)) ((hp1.2.1 _ _ (by omega)).trans ((hS.1.lk o (by omega)).g)) ?_
  refine v_callVV (pc := 22) (As := [_, _]) (rest := []) (c := 4) F mX4_putAge kX8_86 im_X4_putAge se_X4_putAge dX8_gladExchanged_22 rfl rfl (by decide) (c_X4_putAge (x + 1) (lx8_0 hx) n w _ hp1.1 l hl _) (by decide) rfl rfl (Nat.le_of_ble_eq_true rfl) (lx8_0 hx) (fun μ3 hp3 => ?_)
  skip
  refine v_aload_n (pc := 25) (i := 0) F dX8_gladExchanged_25 rfl rfl ?_
  refine v_getR (pc := 26) (o := 1) F fX8_12 dX8_gladExchanged_26 rfl hx ?_
  refine v_topR (y := x + 1) rfl ?_
  refine v_iload_n (pc := 29) (i := 3) F dX8_gladExchanged_29 rfl rfl ?_
  refine v_aload_n (pc := 30) (i := 1) F dX8_gladExchanged_30 rfl rfl ?_
  refine v_getR (pc := 31) (o := 3) F fX8_44 dX8_gladExchanged_31 rfl hb ?_
  refine v_topR (y := b + 3) rfl ?_
  refine v_iload_n (pc := 34) (i := 2) F dX8_gladExchanged_34 rfl rfl ?_
  refine v_aald14N (pc := 35) (k0 := l) (x := b + 5 + 2 * l) F dX8_gladExchanged_35 (lx4_2 hb) (rfl) (by omega) (by decide) (by simp only [j_ro]; first | rfl | omega | (split <;> omega)) ?_
  have ho4 : j_ob ΛX (b + 5 + 2 * l) 3 := by
    have q := lxL (lx4_2 hb) (j := l) (by omega)
    simp only [j_ro] at q
    exact (by first | exact q | (rw [show b + 5 + 2 * l = _ from (by first | rfl | omega)]; exact q))
  refine v_getI (pc := 36) F fX8_83 dX8_gladExchanged_36 rfl ho4 ?_
  refine v_topE (y := (w 4 l)) (((SQ_F (SQ_F hS hp1.2 (fun c j z => by omega)) hp3.2 (fun c j z => by omega)).1.lk l (by omega)).g) ?_
  refine v_callVV (pc := 39) (As := [_, _]) (rest := []) (c := 4) F mX4_putAge kX8_86 im_X4_putAge se_X4_putAge dX8_gladExchanged_39 rfl rfl (by decide) (c_X4_putAge (x + 1) (lx8_0 hx) n (fun c i => if c = 4 ∧ i = l then w 4 o else w c i) _ hp3.1 o ho _) (by decide) rfl rfl (Nat.le_of_ble_eq_true rfl) (lx8_0 hx) (fun μ5 hp5 => ?_)
  skip
  have hS2 : SQ μ5 (x + 1) (ex w l o) n := hp5.1
  refine v_aload_n (pc := 42) (i := 0) F dX8_gladExchanged_42 rfl rfl ?_
  refine v_getR (pc := 43) (o := 22) F fX8_21 dX8_gladExchanged_43 rfl hx ?_
  refine v_topR (y := x + 22) rfl ?_
  refine v_aload_n (pc := 46) (i := 0) F dX8_gladExchanged_46 rfl rfl ?_
  refine v_getR (pc := 47) (o := 1) F fX8_12 dX8_gladExchanged_47 rfl hx ?_
  refine v_topR (y := x + 1) rfl ?_
  refine v_aload_n (pc := 50) (i := 0) F dX8_gladExchanged_50 rfl rfl ?_
  refine v_getR (pc := 51) (o := 1) F fX8_12 dX8_gladExchanged_51 rfl hx ?_
  refine v_topR (y := x + 1) rfl ?_
  refine v_callVI (pc := 54) (As := []) (rest := [_, _]) (c := 4) F mX4_everybody kX8_89 im_X4_everybody se_X4_everybody dX8_gladExchanged_54 rfl rfl (by decide) (c_X4_everybody (x + 1) (lx8_0 hx) n ((ex w l o)) _ (hS2)) (by decide) rfl rfl (Nat.le_of_ble_eq_true rfl) (lx8_0 hx) (fun x6 μ6 hp6 => ?_)
  rw [hp6.1, hp6.2]
  refine v_aload_n (pc := 57) (i := 0) F dX8_gladExchanged_57 rfl rfl ?_
  refine v_getR (pc := 58) (o := 1) F fX8_12 dX8_gladExchanged_58 rfl hx ?_
  refine v_topR (y := x + 1) rfl ?_
  refine v_getI (pc := 61) F fX8_63 dX8_gladExchanged_61 rfl (lx8_0 hx) ?_
  refine v_topE (y := (lfB ((ex w l o) 1))) (hS2.1.fil) ?_
  refine v_callVV (pc := 64) (As := [_, _, _]) (rest := []) (c := 2) F mX2_run kX8_66 im_X2_run se_X2_run dX8_gladExchanged_64 rfl rfl (by decide) (c_X2_run (x + 22) (lx8_1 hx) (x + 1) (lx8_0 hx) n ((ex w l o)) _ (hS2) (WI_ex hW) (nI (2 ^ n - 1)) ((ex w l o) 1) UU.self (by omega)) (by decide) rfl rfl (Nat.le_of_ble_eq_true rfl) (lx8_1 hx) (fun μ7 hp7 => ?_)
  skip
  refine v_aload_n (pc := 67) (i := 0) F dX8_gladExchanged_67 rfl rfl ?_
  refine v_getR (pc := 68) (o := 22) F fX8_21 dX8_gladExchanged_68 rfl hx ?_
  refine v_topR (y := x + 22) rfl ?_
  refine v_getI (pc := 71) F fX8_70 dX8_gladExchanged_71 rfl (lx8_1 hx) ?_
  refine v_topE (y := (bK (fun z9 => tb (nI (2 ^ n - 1)) z9 && gdE ((ex w l o)) n (nI (2 ^ n - 1)) z9) n)) (hp7.2.2.2.1) ?_
  refine v_callSI (pc := 74) (As := [_]) (rest := []) F mJ6_bitCount_0f7a4 kX8_92 sm_J6_bitCount_0f7a4 dX8_gladExchanged_74 (c_J6_bc _ _ _) (by decide) rfl rfl (Nat.le_of_ble_eq_true rfl) (fun x8 μ8 hp8 => ?_)
  rw [hp8.1, hp8.2, jbc_k hn8]
  refine v_ireturn (pc := 77) F dX8_gladExchanged_77 (rfl) ?_
  exact ⟨rfl, (((hp1.2.mono (fun c j z => by omega)).tr (hp3.2.mono (fun c j z => by omega))).tr (hp5.2.mono (fun c j z => by omega))).tr (hp7.1.mono (fun c j z => by omega))⟩

set_option maxRecDepth 100000 in
theorem c_X8_bestExchange (x : Nat) (hx : j_ob ΛX x 8) (b : Nat) (hb : j_ob ΛX b 4) (n : Nat) (w : Nat → Nat → Int32) (μ : j_M) (hS : SQ μ b w n) (hW : WI w n) (hxb : x + 26 ≤ b ∨ b + 21 ≤ x)  : Ct yX8_bestExchange cX8_bestExchange 7 (some .int) 6 ΛX [.ref x, .ref b] μ (pI fun r μ2 => r = (bpO w n n).2 ∧ Fm (P8 x) μ μ2) := by
  refine Ct.go (lo := [some (.ref x), some (.ref b), none, none, none, none, none]) (by decide) (Nat.le_of_ble_eq_true rfl) rfl rfl (fun X F => ?_)
  have F : Fx X cX8_bestExchange RX8 6 (some .int) ΛX := F
  have hn8 := hS.2
  have hpw := j_pw hn8
  refine v_iconst (pc := 0) (v := (-1)) F dX8_bestExchange_0 (by decide) ?_
  refine v_istore_n (pc := 1) (lo' := [some (.ref _), some (.ref _), some (.int _), _, _, _, _]) F dX8_bestExchange_1 rfl rfl (Nat.le_of_ble_eq_true rfl) rfl ?_
  refine v_iconst (pc := 2) (v := (-1)) F dX8_bestExchange_2 (by decide) ?_
  refine v_istore_n (pc := 3) (lo' := [some (.ref _), some (.ref _), some (.int _), some (.int _), _, _, _]) F dX8_bestExchange_3 rfl rfl (Nat.le_of_ble_eq_true rfl) rfl ?_
  refine v_iconst (pc := 4) (v := nI 0) F dX8_bestExchange_4 (by decide) ?_
  refine v_istore (pc := 5) (lo' := [some (.ref _), some (.ref _), some (.int _), some (.int _), some (.int _), _, _]) F dX8_bestExchange_5 rfl (Nat.le_of_ble_eq_true rfl) rfl ?_
  refine j_up n (fun k => ∀ μ' : j_M, (Fm (P8 x) μ μ') → V X _ 7 [some (.ref x), some (.ref b), some (.int ((bpO w n k).2)), some (.int ((bpO w n k).1)), some (.int (nI k)), none, none] [] μ') (fun k hk ih μ' hI => ?_) 0 (Nat.zero_le _) μ (Fm.rf)
  refine v_iload (pc := 7) (i := 4) F dX8_bestExchange_7 rfl ?_
  have hS2 : SQ μ' b w n := SQ_F hS hI (fun c j z => by omega)
  refine v_aload_n (pc := 9) (i := 1) F dX8_bestExchange_9 rfl rfl ?_
  refine v_getI (pc := 10) F fX8_40 dX8_bestExchange_10 rfl hb ?_
  refine v_topE (y := nI n) (hS2.1.cnt) ?_
  refine v_icmp_ge (pc := 13) (tgt := 72) F dX8_bestExchange_13 (by decide) (fun h13_1 => ?_) (fun h13_1 => ?_)
  · rw [nI_leI (by omega) (by omega)] at h13_1
    refine v_iload_n (pc := 72) (i := 2) F dX8_bestExchange_72 rfl rfl ?_
    refine v_ireturn (pc := 73) F dX8_bestExchange_73 (rfl) ?_
    have e : k = n := by omega
    subst e
    exact ⟨rfl, hI⟩
  · rw [nI_leI (by omega) (by omega)] at h13_1
    refine v_iload (pc := 16) (i := 4) F dX8_bestExchange_16 rfl ?_
    refine v_iconst (pc := 18) (v := nI 1) F dX8_bestExchange_18 (by decide) ?_
    refine v_iadd (pc := 19) F dX8_bestExchange_19 ?_
    refine v_topE (nI_add _ _) ?_
    refine v_istore (pc := 20) (lo' := [some (.ref _), some (.ref _), some (.int _), some (.int _), some (.int _), some (.int _), _]) F dX8_bestExchange_20 rfl (Nat.le_of_ble_eq_true rfl) rfl ?_
    refine j_up (n - (k + 1)) (fun j => ∀ μ'' : j_M, Fm (P8 x) μ μ'' → V X _ 22 [some (.ref x), some (.ref b), some (.int ((bpI w n k (bpO w n k) j).2)), some (.int ((bpI w n k (bpO w n k) j).1)), some (.int (nI k)), some (.int (nI (k + 1 + j))), none] [] μ'') (fun j hj ih2 μ'' hJ => ?_) 0 (Nat.zero_le _) μ' hI
    have hS3 : SQ μ'' b w n := SQ_F hS hJ (fun c j z => by omega)
    refine v_iload (pc := 22) (i := 5) F dX8_bestExchange_22 rfl ?_
    refine v_aload_n (pc := 24) (i := 1) F dX8_bestExchange_24 rfl rfl ?_
    refine v_getI (pc := 25) F fX8_40 dX8_bestExchange_25 rfl hb ?_
    refine v_topE (y := nI n) (hS3.1.cnt) ?_
    refine v_icmp_ge (pc := 28) (tgt := 66) F dX8_bestExchange_28 (by decide) (fun h28_2 => ?_) (fun h28_2 => ?_)
    · rw [nI_leI (by omega) (by omega)] at h28_2
      refine v_iinc (pc := 66) (i := 4) (v := nI (k + 1)) (lo' := [some (.ref _), some (.ref _), some (.int _), some (.int _), some (.int _), some (.int _), _]) F dX8_bestExchange_66 rfl (j_inc _) rfl rfl ?_
      refine v_goto (pc := 69) (tgt := 7) F dX8_bestExchange_69 (by decide) ?_
      refine v_drop (i := 5) (lo' := [some (.ref _), some (.ref _), some (.int _), some (.int _), some (.int _), _, _]) rfl ?_
      have ej : j = n - (k + 1) := by omega
      have q := ih (by omega)
      subst ej
      exact q _ hJ
    · rw [nI_leI (by omega) (by omega)] at h28_2
      refine v_aload_n (pc := 31) (i := 0) F dX8_bestExchange_31 rfl rfl ?_
      refine v_aload_n (pc := 32) (i := 1) F dX8_bestExchange_32 rfl rfl ?_
      refine v_iload (pc := 33) (i := 4) F dX8_bestExchange_33 rfl ?_
      refine v_iload (pc := 35) (i := 5) F dX8_bestExchange_35 rfl ?_
      refine v_callVI (pc := 37) (As := [_, _, _]) (rest := []) (c := 8) F mX8_gladExchanged kX8_98 im_X8_gladExchanged se_X8_gladExchanged dX8_bestExchange_37 rfl rfl (by decide) (c_X8_gladExchanged x hx b hb n w _ (hS3) hW (by omega) k (k + 1 + j) (by omega) (by omega)) (by decide) rfl rfl (Nat.le_of_ble_eq_true rfl) hx (fun x3 μ3 hp3 => ?_)
      rw [hp3.1]
      refine v_istore (pc := 40) (lo' := [some (.ref _), some (.ref _), some (.int _), some (.int _), some (.int _), some (.int _), some (.int _)]) F dX8_bestExchange_40 rfl (Nat.le_of_ble_eq_true rfl) rfl ?_
      refine v_iload (pc := 42) (i := 6) F dX8_bestExchange_42 rfl ?_
      refine v_iload_n (pc := 44) (i := 3) F dX8_bestExchange_44 rfl rfl ?_
      refine v_icmp_le (pc := 45) (tgt := 60) F dX8_bestExchange_45 (by decide) (fun hlt0 => ?_) (fun hlt0 => ?_)
      · skip
        have hlt := Int32.not_lt.mpr hlt0
        refine v_iinc (pc := 60) (i := 5) (v := nI (k + 1 + j + 1)) (lo' := [some (.ref _), some (.ref _), some (.int _), some (.int _), some (.int _), some (.int _), some (.int _)]) F dX8_bestExchange_60 rfl (j_inc _) rfl rfl ?_
        refine v_goto (pc := 63) (tgt := 22) F dX8_bestExchange_63 (by decide) ?_
        refine v_drop (i := 6) (lo' := [some (.ref _), some (.ref _), some (.int _), some (.int _), some (.int _), some (.int _), _]) rfl ?_
        have q := ih2 (by omega)
        rw [bpI_f hlt] at q
        rw [show k + 1 + (j + 1) = k + 1 + j + 1 by omega] at q
        exact q _ (hJ.tr hp3.2)
      · skip
        have hlt := Int32.not_le.mp hlt0
        refine v_iload (pc := 48) (i := 6) F dX8_bestExchange_48 rfl ?_
        refine v_istore_n (pc := 50) (lo' := [some (.ref _), some (.ref _), some (.int _), some (.int _), some (.int _), some (.int _), some (.int _)]) F dX8_bestExchange_50 rfl rfl (Nat.le_of_ble_eq_true rfl) rfl ?_
        refine v_bipush (pc := 51) (v := nI 10) F dX8_bestExchange_51 (by decide) ?_
        refine v_iload (pc := 53) (i := 4) F dX8_bestExchange_53 rfl ?_
        refine v_imul (pc := 55) F dX8_bestExchange_55 ?_
        refine v_topE (pk_mul _ _) ?_
        refine v_iload (pc := 56) (i := 5) F dX8_bestExchange_56 rfl ?_
        refine v_iadd (pc := 58) F dX8_bestExchange_58 ?_
        refine v_topE (nI_add _ _) ?_
        refine v_istore_n (pc := 59) (lo' := [some (.ref _), some (.ref _), some (.int _), some (.int _), some (.int _), some (.int _), some (.int _)]) F dX8_bestExchange_59 rfl rfl (Nat.le_of_ble_eq_true rfl) rfl ?_
        refine v_iinc (pc := 60) (i := 5) (v := nI (k + 1 + j + 1)) (lo' := [some (.ref _), some (.ref _), some (.int _), some (.int _), some (.int _), some (.int _), some (.int _)]) F dX8_bestExchange_60 rfl (j_inc _) rfl rfl ?_
        refine v_goto (pc := 63) (tgt := 22) F dX8_bestExchange_63 (by decide) ?_
        refine v_drop (i := 6) (lo' := [some (.ref _), some (.ref _), some (.int _), some (.int _), some (.int _), some (.int _), _]) rfl ?_
        have q := ih2 (by omega)
        rw [bpI_t hlt] at q
        rw [show k + 1 + (j + 1) = k + 1 + j + 1 by omega] at q
        exact q _ (hJ.tr hp3.2)

set_option maxRecDepth 100000 in
theorem c_X8_greatestGladAge (x : Nat) (hx : j_ob ΛX x 8) (b : Nat) (hb : j_ob ΛX b 4) (n : Nat) (w : Nat → Nat → Int32) (μ : j_M) (hS : SQ μ b w n) (hW : WI w n) (hxb : x + 26 ≤ b ∨ b + 21 ≤ x) (l : Nat) (hl : l < n) : Ct yX8_greatestGladAge cX8_greatestGladAge 4 (some .int) 5 ΛX [.ref x, .ref b, .int (nI l)] μ (pI fun r μ2 => r = o2i (lK (fun g => gdE (ag w l g) n (alI n) l) 100) ∧ Fm (P8 x) μ μ2) := by
  refine Ct.go (lo := [some (.ref x), some (.ref b), some (.int (nI l)), none]) (by decide) (Nat.le_of_ble_eq_true rfl) rfl rfl (fun X F => ?_)
  have F : Fx X cX8_greatestGladAge RX8 5 (some .int) ΛX := F
  have hn8 := hS.2
  have hpw := j_pw hn8
  refine v_aload_n (pc := 0) (i := 0) F dX8_greatestGladAge_0 rfl rfl ?_
  refine v_getR (pc := 1) (o := 1) F fX8_12 dX8_greatestGladAge_1 rfl hx ?_
  refine v_topR (y := x + 1) rfl ?_
  refine v_aload_n (pc := 4) (i := 1) F dX8_greatestGladAge_4 rfl rfl ?_
  refine v_callVV (pc := 5) (As := [_]) (rest := []) (c := 4) F mX4_become kX8_32 im_X4_become se_X4_become dX8_greatestGladAge_5 rfl rfl (by decide) (c_X4_become (x + 1) (lx8_0 hx) b hb n w _ (hS) (by omega)) (by decide) rfl rfl (Nat.le_of_ble_eq_true rfl) (lx8_0 hx) (fun μ1 hp1 => ?_)
  skip
  refine v_bipush (pc := 8) (v := nI 99) F dX8_greatestGladAge_8 (by decide) ?_
  refine v_istore_n (pc := 10) (lo' := [some (.ref _), some (.ref _), some (.int _), some (.int _)]) F dX8_greatestGladAge_10 rfl rfl (Nat.le_of_ble_eq_true rfl) rfl ?_
  refine j_up 100 (fun i => ∀ μ' : j_M, (Fm (P8 x) μ μ' ∧ (∃ W, SQ μ' (x + 1) W n ∧ ∀ c j, ¬ (c = 4 ∧ j = l) → W c j = w c j) ∧ ∀ g, 100 ≤ g + i → g < 100 → ¬ (fun g => gdE (ag w l g) n (alI n) l) g = true) → V X _ 11 [some (.ref x), some (.ref b), some (.int (nI l)), some (.int ((dX 100 i)))] [] μ') (fun i hi ih μ' hI => ?_) 0 (Nat.zero_le _) _ ⟨hp1.2.mono (fun c j z => by omega), ⟨w, hp1.1, fun _ _ _ => rfl⟩, fun g a b => absurd a (by omega)⟩
  refine v_iload_n (pc := 11) (i := 3) F dX8_greatestGladAge_11 rfl rfl ?_
  rcases Nat.lt_or_ge i 100 with hi2 | hi2
  · skip
    rw [dX_lt hi2]
    refine v_if_lt (pc := 12) (tgt := 71) F dX8_greatestGladAge_12 (by decide) (fun h12_2 => ?_) (fun h12_2 => ?_)
    · rw [j_lt0 (by omega)] at h12_2
      exact h12_2.elim
    · rw [j_lt0 (by omega)] at h12_2
      refine v_aload_n (pc := 15) (i := 0) F dX8_greatestGladAge_15 rfl rfl ?_
      refine v_getR (pc := 16) (o := 1) F fX8_12 dX8_greatestGladAge_16 rfl hx ?_
      refine v_topR (y := x + 1) rfl ?_
      refine v_iload_n (pc := 19) (i := 2) F dX8_greatestGladAge_19 rfl rfl ?_
      refine v_iload_n (pc := 20) (i := 3) F dX8_greatestGladAge_20 rfl rfl ?_
      obtain ⟨Wt, hWs, hWw⟩ := hI.2.1
      rw [show 100 - 1 - i = 99 - i by omega]
      refine v_callVV (pc := 21) (As := [_, _]) (rest := []) (c := 4) F mX4_putAge kX8_86 im_X4_putAge se_X4_putAge dX8_greatestGladAge_21 rfl rfl (by decide) (c_X4_putAge (x + 1) (lx8_0 hx) n Wt _ hWs l hl _) (by decide) rfl rfl (Nat.le_of_ble_eq_true rfl) (lx8_0 hx) (fun μ3 hp3 => ?_)
      skip
      have hS2 : SQ μ3 (x + 1) (ag w l (99 - i)) n := by
        have q := hp3.1
        have e : (fun c j => if c = 4 ∧ j = l then nI (99 - i) else Wt c j) = ag w l (99 - i) := by
          funext c j
          show (if c = 4 ∧ j = l then nI (99 - i) else Wt c j) = (if c = 4 ∧ j = l then nI (99 - i) else w c j)
          by_cases z : c = 4 ∧ j = l
          · rw [if_pos z, if_pos z]
          · rw [if_neg z, if_neg z]; exact hWw c j z
        rw [e] at q
        exact q
      refine v_aload_n (pc := 24) (i := 0) F dX8_greatestGladAge_24 rfl rfl ?_
      refine v_getR (pc := 25) (o := 22) F fX8_21 dX8_greatestGladAge_25 rfl hx ?_
      refine v_topR (y := x + 22) rfl ?_
      refine v_aload_n (pc := 28) (i := 0) F dX8_greatestGladAge_28 rfl rfl ?_
      refine v_getR (pc := 29) (o := 1) F fX8_12 dX8_greatestGladAge_29 rfl hx ?_
      refine v_topR (y := x + 1) rfl ?_
      refine v_aload_n (pc := 32) (i := 0) F dX8_greatestGladAge_32 rfl rfl ?_
      refine v_getR (pc := 33) (o := 1) F fX8_12 dX8_greatestGladAge_33 rfl hx ?_
      refine v_topR (y := x + 1) rfl ?_
      refine v_callVI (pc := 36) (As := []) (rest := [_, _]) (c := 4) F mX4_everybody kX8_89 im_X4_everybody se_X4_everybody dX8_greatestGladAge_36 rfl rfl (by decide) (c_X4_everybody (x + 1) (lx8_0 hx) n ((ag w l (99 - i))) _ (hS2)) (by decide) rfl rfl (Nat.le_of_ble_eq_true rfl) (lx8_0 hx) (fun x4 μ4 hp4 => ?_)
      rw [hp4.1, hp4.2]
      refine v_aload_n (pc := 39) (i := 0) F dX8_greatestGladAge_39 rfl rfl ?_
      refine v_getR (pc := 40) (o := 1) F fX8_12 dX8_greatestGladAge_40 rfl hx ?_
      refine v_topR (y := x + 1) rfl ?_
      refine v_getI (pc := 43) F fX8_63 dX8_greatestGladAge_43 rfl (lx8_0 hx) ?_
      refine v_topE (y := (lfB ((ag w l (99 - i)) 1))) (hS2.1.fil) ?_
      refine v_callVV (pc := 46) (As := [_, _, _]) (rest := []) (c := 2) F mX2_run kX8_66 im_X2_run se_X2_run dX8_greatestGladAge_46 rfl rfl (by decide) (c_X2_run (x + 22) (lx8_1 hx) (x + 1) (lx8_0 hx) n ((ag w l (99 - i))) _ (hS2) (WI_ag hW) (nI (2 ^ n - 1)) ((ag w l (99 - i)) 1) UU.self (by omega)) (by decide) rfl rfl (Nat.le_of_ble_eq_true rfl) (lx8_1 hx) (fun μ5 hp5 => ?_)
      skip
      refine v_aload_n (pc := 49) (i := 0) F dX8_greatestGladAge_49 rfl rfl ?_
      refine v_getR (pc := 50) (o := 22) F fX8_21 dX8_greatestGladAge_50 rfl hx ?_
      refine v_topR (y := x + 22) rfl ?_
      refine v_getI (pc := 53) F fX8_70 dX8_greatestGladAge_53 rfl (lx8_1 hx) ?_
      refine v_topE (y := (bK (fun z9 => tb (nI (2 ^ n - 1)) z9 && gdE ((ag w l (99 - i))) n (nI (2 ^ n - 1)) z9) n)) (hp5.2.2.2.1) ?_
      refine v_iload_n (pc := 56) (i := 2) F dX8_greatestGladAge_56 rfl rfl ?_
      refine v_ishr (pc := 57) F dX8_greatestGladAge_57 ?_
      refine v_iconst (pc := 58) (v := nI 1) F dX8_greatestGladAge_58 (by decide) ?_
      refine v_iand (pc := 59) F dX8_greatestGladAge_59 ?_
      refine v_if_eq (pc := 60) (tgt := 65) F dX8_greatestGladAge_60 (by decide) (fun hgl => ?_) (fun hgl => ?_)
      · rw [tb_if (by omega)] at hgl
        have hgd : ¬ (fun g => gdE (ag w l g) n (alI n) l) (99 - i) = true := by
          intro z
          refine hgl ?_
          rw [glE hn8 hl, tb_pm (by omega) l (by omega), decide_eq_true hl]; exact z
        refine v_iinc (pc := 65) (i := 3) (v := (dX 100 (i + 1))) (lo' := [some (.ref _), some (.ref _), some (.int _), some (.int _)]) F dX8_greatestGladAge_65 rfl (by rw [show 99 - i = 100 - 1 - i by omega]; exact dX_s hi2) rfl rfl ?_
        refine v_goto (pc := 68) (tgt := 11) F dX8_greatestGladAge_68 (by decide) ?_
        refine ih (by omega) _ ⟨(hI.1.tr (hp3.2.mono (fun c j z => by omega))).tr (hp5.1.mono (fun c j z => by omega)), ⟨ag w l (99 - i), SQ_F hS2 hp5.1 (fun c j z => by omega), fun c j z => if_neg z⟩, fun g a b => ?_⟩
        by_cases e : g = 99 - i
        · subst e; exact hgd
        · exact hI.2.2 g (by omega) b
      · rw [tb_if (by omega)] at hgl
        rw [Classical.not_not] at hgl
        have hgd : (fun g => gdE (ag w l g) n (alI n) l) (99 - i) = true := by
          have q := hgl
          rw [glE hn8 hl, tb_pm (by omega) l (by omega), decide_eq_true hl] at q
          exact q
        refine v_iload_n (pc := 63) (i := 3) F dX8_greatestGladAge_63 rfl rfl ?_
        refine v_ireturn (pc := 64) F dX8_greatestGladAge_64 (rfl) ?_
        rw [lK_some (g := 99 - i) hgd (by omega) (fun g a b => hI.2.2 g (by omega) b)]
        exact ⟨rfl, (hI.1.tr (hp3.2.mono (fun c j z => by omega))).tr (hp5.1.mono (fun c j z => by omega))⟩
  · skip
    rw [dX_ge hi2]
    refine v_if_lt (pc := 12) (tgt := 71) F dX8_greatestGladAge_12 (by decide) (fun h12_7 => ?_) (fun h12_7 => ?_)
    · skip
      refine v_iconst (pc := 71) (v := (-1)) F dX8_greatestGladAge_71 (by decide) ?_
      refine v_ireturn (pc := 72) F dX8_greatestGladAge_72 (rfl) ?_
      rw [lK_none (fun g b => hI.2.2 g (by omega) b)]
      exact ⟨rfl, hI.1⟩
    · skip
      exact absurd h12_7 (by decide)

set_option maxRecDepth 100000 in
theorem c_X9_kinds (set l taken what : Int32) (μ ν : j_M) (hM : MI ν) (hR : Rel μ ν) : Ct yX9_kinds cX9_kinds 5 (some .int) 6 ΛX [.ref 0, .int set, .int l, .int taken, .int what] μ (pI fun r μ2 => r = (s_kinds set l taken what ν).1 ∧ Rel μ2 (s_kinds set l taken what ν).2) := by
  refine Ct.go (lo := [some (.ref 0), some (.int set), some (.int l), some (.int taken), some (.int what)]) (by decide) (Nat.le_of_ble_eq_true rfl) rfl rfl (fun X F => ?_)
  have F : Fx X cX9_kinds RX9 6 (some .int) ΛX := F
  obtain ⟨n, hW, hsh, htp, him⟩ := id hM
  have hn := hW.1
  have hn8 := hW.2.1
  have hnn := nn_eq hn hn8
  have ho := hW.own
  have hpw := j_pw hn8
  have hS : SQ μ 1 ν.1 n := ⟨by have := hR.sc; rwa [hnn] at this, hn8⟩
  rcases inQ_c2 what with rfl | rfl | hqw
  · skip
    have hqw : inQ 2 (nI 0) = true := by decide
    have hix : ix (nI 0) = 0 := by decide
    have hc0 : (nI 0 = 0) = True := eq_true (by decide)
    refine v_aload_n (pc := 0) (i := 0) F dX9_kinds_0 rfl rfl ?_
    refine v_iload_n (pc := 1) (i := 1) F dX9_kinds_1 rfl rfl ?_
    refine v_callVI (pc := 2) (As := [_]) (rest := []) (c := 9) F mX9_isSet kX9_257 im_X9_isSet se_X9_isSet dX9_kinds_2 rfl rfl (by decide) (c_X9_isSet _ n ν.1 _ (hS)) (by decide) rfl rfl (Nat.le_of_ble_eq_true rfl) lx0 (fun x1 μ1 hp1 => ?_)
    rw [hp1.1, hp1.2]
    refine v_if_eq (pc := 5) (tgt := 24) F dX9_kinds_5 (by decide) (fun h5_2 => ?_) (fun h5_2 => ?_)
    · rw [b2i_0] at h5_2
      refine v_aload_n (pc := 24) (i := 0) F dX9_kinds_24 rfl rfl ?_
      refine v_bipush (pc := 25) (v := (-2)) F dX9_kinds_25 (by decide) ?_
      refine v_callVI (pc := 27) (As := [_]) (rest := []) (c := 9) F mX9_refuse kX9_79 im_X9_refuse se_X9_refuse dX9_kinds_27 rfl rfl (by decide) (c_X9_refuse (-2) 2 (by decide) (by decide) (by decide) _) (by decide) rfl rfl (Nat.le_of_ble_eq_true rfl) lx0 (fun x3 μ3 hp3 => ?_)
      rw [hp3.1, hp3.2]
      refine v_ireturn (pc := 30) F dX9_kinds_30 (rfl) ?_
      by_cases z9 : inQ 4096 taken = true <;> simp only [s_kinds, rj, hnn, hqw, hix, hc0, h5_2, z9, ↓reduceIte] <;> refine ⟨?_, ?_⟩ <;> first | exact trivial | exact rfl | exact hR | exact Rel.rj hM hR (by decide)
    · rw [b2i_0] at h5_2
      rw [Classical.not_not] at h5_2
      obtain ⟨k_set, hk_set, he_set⟩ := inR_of (by omega) h5_2
      subst he_set
      have ek_set : ix (nI k_set) = k_set := nI_clamp (by omega)
      refine v_aload_n (pc := 8) (i := 0) F dX9_kinds_8 rfl rfl ?_
      refine v_iload_n (pc := 9) (i := 2) F dX9_kinds_9 rfl rfl ?_
      refine v_callVI (pc := 10) (As := [_]) (rest := []) (c := 9) F mX9_isLooker kX9_126 im_X9_isLooker se_X9_isLooker dX9_kinds_10 rfl rfl (by decide) (c_X9_isLooker _ n ν.1 _ (hS)) (by decide) rfl rfl (Nat.le_of_ble_eq_true rfl) lx0 (fun x4 μ4 hp4 => ?_)
      rw [hp4.1, hp4.2]
      refine v_if_eq (pc := 13) (tgt := 24) F dX9_kinds_13 (by decide) (fun h13_5 => ?_) (fun h13_5 => ?_)
      · rw [b2i_0] at h13_5
        refine v_aload_n (pc := 24) (i := 0) F dX9_kinds_24 rfl rfl ?_
        refine v_bipush (pc := 25) (v := (-2)) F dX9_kinds_25 (by decide) ?_
        refine v_callVI (pc := 27) (As := [_]) (rest := []) (c := 9) F mX9_refuse kX9_79 im_X9_refuse se_X9_refuse dX9_kinds_27 rfl rfl (by decide) (c_X9_refuse (-2) 2 (by decide) (by decide) (by decide) _) (by decide) rfl rfl (Nat.le_of_ble_eq_true rfl) lx0 (fun x6 μ6 hp6 => ?_)
        rw [hp6.1, hp6.2]
        refine v_ireturn (pc := 30) F dX9_kinds_30 (rfl) ?_
        by_cases z9 : inQ 4096 taken = true <;> simp only [s_kinds, rj, hnn, hqw, hix, hc0, h5_2, ek_set, h13_5, z9, ↓reduceIte] <;> refine ⟨?_, ?_⟩ <;> first | exact trivial | exact rfl | exact hR | exact Rel.rj hM hR (by decide)
      · rw [b2i_0] at h13_5
        rw [Classical.not_not] at h13_5
        obtain ⟨k_l, hk_l, he_l⟩ := inR_of (by omega) h13_5
        subst he_l
        have ek_l : ix (nI k_l) = k_l := nI_clamp (by omega)
        refine v_iload_n (pc := 16) (i := 1) F dX9_kinds_16 rfl rfl ?_
        refine v_iload_n (pc := 17) (i := 2) F dX9_kinds_17 rfl rfl ?_
        refine v_ishr (pc := 18) F dX9_kinds_18 ?_
        refine v_iconst (pc := 19) (v := nI 1) F dX9_kinds_19 (by decide) ?_
        refine v_iand (pc := 20) F dX9_kinds_20 ?_
        refine v_if_ne (pc := 21) (tgt := 31) F dX9_kinds_21 (by decide) (fun hin => ?_) (fun hin => ?_)
        · rw [tb_if (by omega)] at hin
          rw [Classical.not_not] at hin
          refine v_iload_n (pc := 31) (i := 3) F dX9_kinds_31 rfl rfl ?_
          refine v_callSI (pc := 32) (As := [_]) (rest := []) F mX9_isPlaces kX9_305 sm_X9_isPlaces dX9_kinds_32 (c_X9_isPlaces _ _) (by decide) rfl rfl (Nat.le_of_ble_eq_true rfl) (fun x8 μ8 hp8 => ?_)
          rw [hp8.1, hp8.2]
          refine v_if_eq (pc := 35) (tgt := 49) F dX9_kinds_35 (by decide) (fun htk => ?_) (fun htk => ?_)
          · rw [b2i_0] at htk
            refine v_aload_n (pc := 49) (i := 0) F dX9_kinds_49 rfl rfl ?_
            refine v_bipush (pc := 50) (v := (-2)) F dX9_kinds_50 (by decide) ?_
            refine v_callVI (pc := 52) (As := [_]) (rest := []) (c := 9) F mX9_refuse kX9_79 im_X9_refuse se_X9_refuse dX9_kinds_52 rfl rfl (by decide) (c_X9_refuse (-2) 2 (by decide) (by decide) (by decide) _) (by decide) rfl rfl (Nat.le_of_ble_eq_true rfl) lx0 (fun x10 μ10 hp10 => ?_)
            rw [hp10.1, hp10.2]
            refine v_ireturn (pc := 55) F dX9_kinds_55 (rfl) ?_
            simp only [s_kinds, rj, hnn, hqw, hix, hc0, h5_2, ek_set, h13_5, ek_l, hin, htk, ↓reduceIte]
            refine ⟨?_, ?_⟩ <;> first | exact trivial | exact rfl | exact hR | exact Rel.rj hM hR (by decide)
          · rw [b2i_0] at htk
            rw [Classical.not_not] at htk
            refine v_iload (pc := 38) (i := 4) F dX9_kinds_38 rfl ?_
            refine v_if_eq (pc := 40) (tgt := 56) F dX9_kinds_40 (by decide) (fun h40_11 => ?_) (fun h40_11 => ?_)
            · rw [j_eq0 (by omega)] at h40_11
              refine v_iload (pc := 56) (i := 4) F dX9_kinds_56 rfl ?_
              refine v_if_ne (pc := 58) (tgt := 78) F dX9_kinds_58 (by decide) (fun h58_12 => ?_) (fun h58_12 => ?_)
              · rw [j_eq0 (by omega)] at h58_12
                exact absurd h58_12 (by decide)
              · rw [j_eq0 (by omega)] at h58_12
                refine v_aload_n (pc := 61) (i := 0) F dX9_kinds_61 rfl rfl ?_
                refine v_getR (pc := 62) (o := 72) F fX9_46 dX9_kinds_62 rfl lx0 ?_
                refine v_topR (y := 72) rfl ?_
                refine v_aload_n (pc := 65) (i := 0) F dX9_kinds_65 rfl rfl ?_
                refine v_getR (pc := 66) (o := 1) F fX9_12 dX9_kinds_66 rfl lx0 ?_
                refine v_topR (y := 1) rfl ?_
                refine v_iload_n (pc := 69) (i := 1) F dX9_kinds_69 rfl rfl ?_
                refine v_iload_n (pc := 70) (i := 2) F dX9_kinds_70 rfl rfl ?_
                refine v_iload_n (pc := 71) (i := 3) F dX9_kinds_71 rfl rfl ?_
                refine v_callVI (pc := 72) (As := [_, _, _, _]) (rest := []) (c := 8) F mX8_kindsTaking kX9_336 im_X8_kindsTaking se_X8_kindsTaking dX9_kinds_72 rfl rfl (by decide) (c_X8_kindsTaking 72 (lx9_7 lx0) 1 (lx9_0 lx0) n ν.1 _ (hS) hW (by omega) _ k_l (by omega) _) (by decide) rfl rfl (Nat.le_of_ble_eq_true rfl) (lx9_7 lx0) (fun x13 μ13 hp13 => ?_)
                rw [hp13.1]
                refine v_goto (pc := 75) (tgt := 92) F dX9_kinds_75 (by decide) ?_
                refine v_ireturn (pc := 92) F dX9_kinds_92 (rfl) ?_
                simp only [s_kinds, rj, hnn, hqw, hix, hc0, h5_2, ek_set, h13_5, ek_l, hin, htk, h40_11, h58_12, ↓reduceIte]
                refine ⟨?_, ?_⟩ <;> first | exact trivial | exact rfl | exact (hR.X hM hp13.2 (fun c j z => by omega)) | exact Rel.rj hM hR (by decide)
            · rw [j_eq0 (by omega)] at h40_11
              exact absurd h40_11 (by decide)
        · rw [tb_if (by omega)] at hin
          refine v_aload_n (pc := 24) (i := 0) F dX9_kinds_24 rfl rfl ?_
          refine v_bipush (pc := 25) (v := (-2)) F dX9_kinds_25 (by decide) ?_
          refine v_callVI (pc := 27) (As := [_]) (rest := []) (c := 9) F mX9_refuse kX9_79 im_X9_refuse se_X9_refuse dX9_kinds_27 rfl rfl (by decide) (c_X9_refuse (-2) 2 (by decide) (by decide) (by decide) _) (by decide) rfl rfl (Nat.le_of_ble_eq_true rfl) lx0 (fun x14 μ14 hp14 => ?_)
          rw [hp14.1, hp14.2]
          refine v_ireturn (pc := 30) F dX9_kinds_30 (rfl) ?_
          by_cases z9 : inQ 4096 taken = true <;> simp only [s_kinds, rj, hnn, hqw, hix, hc0, h5_2, ek_set, h13_5, ek_l, hin, z9, ↓reduceIte] <;> refine ⟨?_, ?_⟩ <;> first | exact trivial | exact rfl | exact hR | exact Rel.rj hM hR (by decide)
  · skip
    have hqw : inQ 2 (nI 1) = true := by decide
    have hix : ix (nI 1) = 1 := by decide
    have hc0 : (nI 1 = 0) = False := eq_false (by decide)
    refine v_aload_n (pc := 0) (i := 0) F dX9_kinds_0 rfl rfl ?_
    refine v_iload_n (pc := 1) (i := 1) F dX9_kinds_1 rfl rfl ?_
    refine v_callVI (pc := 2) (As := [_]) (rest := []) (c := 9) F mX9_isSet kX9_257 im_X9_isSet se_X9_isSet dX9_kinds_2 rfl rfl (by decide) (c_X9_isSet _ n ν.1 _ (hS)) (by decide) rfl rfl (Nat.le_of_ble_eq_true rfl) lx0 (fun x15 μ15 hp15 => ?_)
    rw [hp15.1, hp15.2]
    refine v_if_eq (pc := 5) (tgt := 24) F dX9_kinds_5 (by decide) (fun h5_16 => ?_) (fun h5_16 => ?_)
    · rw [b2i_0] at h5_16
      refine v_aload_n (pc := 24) (i := 0) F dX9_kinds_24 rfl rfl ?_
      refine v_bipush (pc := 25) (v := (-2)) F dX9_kinds_25 (by decide) ?_
      refine v_callVI (pc := 27) (As := [_]) (rest := []) (c := 9) F mX9_refuse kX9_79 im_X9_refuse se_X9_refuse dX9_kinds_27 rfl rfl (by decide) (c_X9_refuse (-2) 2 (by decide) (by decide) (by decide) _) (by decide) rfl rfl (Nat.le_of_ble_eq_true rfl) lx0 (fun x17 μ17 hp17 => ?_)
      rw [hp17.1, hp17.2]
      refine v_ireturn (pc := 30) F dX9_kinds_30 (rfl) ?_
      by_cases z9 : inQ 4096 taken = true <;> simp only [s_kinds, rj, hnn, hqw, hix, hc0, h5_16, z9, ↓reduceIte] <;> refine ⟨?_, ?_⟩ <;> first | exact trivial | exact rfl | exact hR | exact Rel.rj hM hR (by decide)
    · rw [b2i_0] at h5_16
      rw [Classical.not_not] at h5_16
      obtain ⟨k_set, hk_set, he_set⟩ := inR_of (by omega) h5_16
      subst he_set
      have ek_set : ix (nI k_set) = k_set := nI_clamp (by omega)
      refine v_aload_n (pc := 8) (i := 0) F dX9_kinds_8 rfl rfl ?_
      refine v_iload_n (pc := 9) (i := 2) F dX9_kinds_9 rfl rfl ?_
      refine v_callVI (pc := 10) (As := [_]) (rest := []) (c := 9) F mX9_isLooker kX9_126 im_X9_isLooker se_X9_isLooker dX9_kinds_10 rfl rfl (by decide) (c_X9_isLooker _ n ν.1 _ (hS)) (by decide) rfl rfl (Nat.le_of_ble_eq_true rfl) lx0 (fun x18 μ18 hp18 => ?_)
      rw [hp18.1, hp18.2]
      refine v_if_eq (pc := 13) (tgt := 24) F dX9_kinds_13 (by decide) (fun h13_19 => ?_) (fun h13_19 => ?_)
      · rw [b2i_0] at h13_19
        refine v_aload_n (pc := 24) (i := 0) F dX9_kinds_24 rfl rfl ?_
        refine v_bipush (pc := 25) (v := (-2)) F dX9_kinds_25 (by decide) ?_
        refine v_callVI (pc := 27) (As := [_]) (rest := []) (c := 9) F mX9_refuse kX9_79 im_X9_refuse se_X9_refuse dX9_kinds_27 rfl rfl (by decide) (c_X9_refuse (-2) 2 (by decide) (by decide) (by decide) _) (by decide) rfl rfl (Nat.le_of_ble_eq_true rfl) lx0 (fun x20 μ20 hp20 => ?_)
        rw [hp20.1, hp20.2]
        refine v_ireturn (pc := 30) F dX9_kinds_30 (rfl) ?_
        by_cases z9 : inQ 4096 taken = true <;> simp only [s_kinds, rj, hnn, hqw, hix, hc0, h5_16, ek_set, h13_19, z9, ↓reduceIte] <;> refine ⟨?_, ?_⟩ <;> first | exact trivial | exact rfl | exact hR | exact Rel.rj hM hR (by decide)
      · rw [b2i_0] at h13_19
        rw [Classical.not_not] at h13_19
        obtain ⟨k_l, hk_l, he_l⟩ := inR_of (by omega) h13_19
        subst he_l
        have ek_l : ix (nI k_l) = k_l := nI_clamp (by omega)
        refine v_iload_n (pc := 16) (i := 1) F dX9_kinds_16 rfl rfl ?_
        refine v_iload_n (pc := 17) (i := 2) F dX9_kinds_17 rfl rfl ?_
        refine v_ishr (pc := 18) F dX9_kinds_18 ?_
        refine v_iconst (pc := 19) (v := nI 1) F dX9_kinds_19 (by decide) ?_
        refine v_iand (pc := 20) F dX9_kinds_20 ?_
        refine v_if_ne (pc := 21) (tgt := 31) F dX9_kinds_21 (by decide) (fun hin => ?_) (fun hin => ?_)
        · rw [tb_if (by omega)] at hin
          rw [Classical.not_not] at hin
          refine v_iload_n (pc := 31) (i := 3) F dX9_kinds_31 rfl rfl ?_
          refine v_callSI (pc := 32) (As := [_]) (rest := []) F mX9_isPlaces kX9_305 sm_X9_isPlaces dX9_kinds_32 (c_X9_isPlaces _ _) (by decide) rfl rfl (Nat.le_of_ble_eq_true rfl) (fun x22 μ22 hp22 => ?_)
          rw [hp22.1, hp22.2]
          refine v_if_eq (pc := 35) (tgt := 49) F dX9_kinds_35 (by decide) (fun htk => ?_) (fun htk => ?_)
          · rw [b2i_0] at htk
            refine v_aload_n (pc := 49) (i := 0) F dX9_kinds_49 rfl rfl ?_
            refine v_bipush (pc := 50) (v := (-2)) F dX9_kinds_50 (by decide) ?_
            refine v_callVI (pc := 52) (As := [_]) (rest := []) (c := 9) F mX9_refuse kX9_79 im_X9_refuse se_X9_refuse dX9_kinds_52 rfl rfl (by decide) (c_X9_refuse (-2) 2 (by decide) (by decide) (by decide) _) (by decide) rfl rfl (Nat.le_of_ble_eq_true rfl) lx0 (fun x24 μ24 hp24 => ?_)
            rw [hp24.1, hp24.2]
            refine v_ireturn (pc := 55) F dX9_kinds_55 (rfl) ?_
            simp only [s_kinds, rj, hnn, hqw, hix, hc0, h5_16, ek_set, h13_19, ek_l, hin, htk, ↓reduceIte]
            refine ⟨?_, ?_⟩ <;> first | exact trivial | exact rfl | exact hR | exact Rel.rj hM hR (by decide)
          · rw [b2i_0] at htk
            rw [Classical.not_not] at htk
            refine v_iload (pc := 38) (i := 4) F dX9_kinds_38 rfl ?_
            refine v_if_eq (pc := 40) (tgt := 56) F dX9_kinds_40 (by decide) (fun h40_25 => ?_) (fun h40_25 => ?_)
            · rw [j_eq0 (by omega)] at h40_25
              exact absurd h40_25 (by decide)
            · rw [j_eq0 (by omega)] at h40_25
              refine v_iload (pc := 43) (i := 4) F dX9_kinds_43 rfl ?_
              refine v_iconst (pc := 45) (v := nI 1) F dX9_kinds_45 (by decide) ?_
              refine v_icmp_eq (pc := 46) (tgt := 56) F dX9_kinds_46 (by decide) (fun h46_26 => ?_) (fun h46_26 => ?_)
              · rw [nI_eq (by omega) (by omega)] at h46_26
                refine v_iload (pc := 56) (i := 4) F dX9_kinds_56 rfl ?_
                refine v_if_ne (pc := 58) (tgt := 78) F dX9_kinds_58 (by decide) (fun h58_27 => ?_) (fun h58_27 => ?_)
                · rw [j_eq0 (by omega)] at h58_27
                  refine v_aload_n (pc := 78) (i := 0) F dX9_kinds_78 rfl rfl ?_
                  refine v_getR (pc := 79) (o := 72) F fX9_46 dX9_kinds_79 rfl lx0 ?_
                  refine v_topR (y := 72) rfl ?_
                  refine v_aload_n (pc := 82) (i := 0) F dX9_kinds_82 rfl rfl ?_
                  refine v_getR (pc := 83) (o := 1) F fX9_12 dX9_kinds_83 rfl lx0 ?_
                  refine v_topR (y := 1) rfl ?_
                  refine v_iload_n (pc := 86) (i := 1) F dX9_kinds_86 rfl rfl ?_
                  refine v_iload_n (pc := 87) (i := 2) F dX9_kinds_87 rfl rfl ?_
                  refine v_iload_n (pc := 88) (i := 3) F dX9_kinds_88 rfl rfl ?_
                  refine v_callVI (pc := 89) (As := [_, _, _, _]) (rest := []) (c := 8) F mX8_wishesTaking kX9_340 im_X8_wishesTaking se_X8_wishesTaking dX9_kinds_89 rfl rfl (by decide) (c_X8_wishesTaking 72 (lx9_7 lx0) 1 (lx9_0 lx0) n ν.1 _ (hS) hW (by omega) _ k_l (by omega) _) (by decide) rfl rfl (Nat.le_of_ble_eq_true rfl) (lx9_7 lx0) (fun x28 μ28 hp28 => ?_)
                  rw [hp28.1]
                  refine v_ireturn (pc := 92) F dX9_kinds_92 (rfl) ?_
                  simp only [s_kinds, rj, hnn, hqw, hix, hc0, h5_16, ek_set, h13_19, ek_l, hin, htk, h40_25, h46_26, h58_27, ↓reduceIte]
                  refine ⟨?_, ?_⟩ <;> first | exact trivial | exact rfl | exact (hR.X hM hp28.2 (fun c j z => by omega)) | exact Rel.rj hM hR (by decide)
                · rw [j_eq0 (by omega)] at h58_27
                  exact absurd h58_27 (by decide)
              · rw [nI_eq (by omega) (by omega)] at h46_26
                exact absurd h46_26 (by decide)
        · rw [tb_if (by omega)] at hin
          refine v_aload_n (pc := 24) (i := 0) F dX9_kinds_24 rfl rfl ?_
          refine v_bipush (pc := 25) (v := (-2)) F dX9_kinds_25 (by decide) ?_
          refine v_callVI (pc := 27) (As := [_]) (rest := []) (c := 9) F mX9_refuse kX9_79 im_X9_refuse se_X9_refuse dX9_kinds_27 rfl rfl (by decide) (c_X9_refuse (-2) 2 (by decide) (by decide) (by decide) _) (by decide) rfl rfl (Nat.le_of_ble_eq_true rfl) lx0 (fun x29 μ29 hp29 => ?_)
          rw [hp29.1, hp29.2]
          refine v_ireturn (pc := 30) F dX9_kinds_30 (rfl) ?_
          by_cases z9 : inQ 4096 taken = true <;> simp only [s_kinds, rj, hnn, hqw, hix, hc0, h5_16, ek_set, h13_19, ek_l, hin, z9, ↓reduceIte] <;> refine ⟨?_, ?_⟩ <;> first | exact trivial | exact rfl | exact hR | exact Rel.rj hM hR (by decide)
  · skip
    refine v_aload_n (pc := 0) (i := 0) F dX9_kinds_0 rfl rfl ?_
    refine v_iload_n (pc := 1) (i := 1) F dX9_kinds_1 rfl rfl ?_
    refine v_callVI (pc := 2) (As := [_]) (rest := []) (c := 9) F mX9_isSet kX9_257 im_X9_isSet se_X9_isSet dX9_kinds_2 rfl rfl (by decide) (c_X9_isSet _ n ν.1 _ (hS)) (by decide) rfl rfl (Nat.le_of_ble_eq_true rfl) lx0 (fun x30 μ30 hp30 => ?_)
    rw [hp30.1, hp30.2]
    refine v_if_eq (pc := 5) (tgt := 24) F dX9_kinds_5 (by decide) (fun h5_31 => ?_) (fun h5_31 => ?_)
    · rw [b2i_0] at h5_31
      refine v_aload_n (pc := 24) (i := 0) F dX9_kinds_24 rfl rfl ?_
      refine v_bipush (pc := 25) (v := (-2)) F dX9_kinds_25 (by decide) ?_
      refine v_callVI (pc := 27) (As := [_]) (rest := []) (c := 9) F mX9_refuse kX9_79 im_X9_refuse se_X9_refuse dX9_kinds_27 rfl rfl (by decide) (c_X9_refuse (-2) 2 (by decide) (by decide) (by decide) _) (by decide) rfl rfl (Nat.le_of_ble_eq_true rfl) lx0 (fun x32 μ32 hp32 => ?_)
      rw [hp32.1, hp32.2]
      refine v_ireturn (pc := 30) F dX9_kinds_30 (rfl) ?_
      by_cases z9 : inQ 4096 taken = true <;> simp only [s_kinds, rj, hnn, hqw, h5_31, z9, ↓reduceIte] <;> refine ⟨?_, ?_⟩ <;> first | exact trivial | exact rfl | exact hR | exact Rel.rj hM hR (by decide)
    · rw [b2i_0] at h5_31
      rw [Classical.not_not] at h5_31
      obtain ⟨k_set, hk_set, he_set⟩ := inR_of (by omega) h5_31
      subst he_set
      have ek_set : ix (nI k_set) = k_set := nI_clamp (by omega)
      refine v_aload_n (pc := 8) (i := 0) F dX9_kinds_8 rfl rfl ?_
      refine v_iload_n (pc := 9) (i := 2) F dX9_kinds_9 rfl rfl ?_
      refine v_callVI (pc := 10) (As := [_]) (rest := []) (c := 9) F mX9_isLooker kX9_126 im_X9_isLooker se_X9_isLooker dX9_kinds_10 rfl rfl (by decide) (c_X9_isLooker _ n ν.1 _ (hS)) (by decide) rfl rfl (Nat.le_of_ble_eq_true rfl) lx0 (fun x33 μ33 hp33 => ?_)
      rw [hp33.1, hp33.2]
      refine v_if_eq (pc := 13) (tgt := 24) F dX9_kinds_13 (by decide) (fun h13_34 => ?_) (fun h13_34 => ?_)
      · rw [b2i_0] at h13_34
        refine v_aload_n (pc := 24) (i := 0) F dX9_kinds_24 rfl rfl ?_
        refine v_bipush (pc := 25) (v := (-2)) F dX9_kinds_25 (by decide) ?_
        refine v_callVI (pc := 27) (As := [_]) (rest := []) (c := 9) F mX9_refuse kX9_79 im_X9_refuse se_X9_refuse dX9_kinds_27 rfl rfl (by decide) (c_X9_refuse (-2) 2 (by decide) (by decide) (by decide) _) (by decide) rfl rfl (Nat.le_of_ble_eq_true rfl) lx0 (fun x35 μ35 hp35 => ?_)
        rw [hp35.1, hp35.2]
        refine v_ireturn (pc := 30) F dX9_kinds_30 (rfl) ?_
        by_cases z9 : inQ 4096 taken = true <;> simp only [s_kinds, rj, hnn, hqw, h5_31, ek_set, h13_34, z9, ↓reduceIte] <;> refine ⟨?_, ?_⟩ <;> first | exact trivial | exact rfl | exact hR | exact Rel.rj hM hR (by decide)
      · rw [b2i_0] at h13_34
        rw [Classical.not_not] at h13_34
        obtain ⟨k_l, hk_l, he_l⟩ := inR_of (by omega) h13_34
        subst he_l
        have ek_l : ix (nI k_l) = k_l := nI_clamp (by omega)
        refine v_iload_n (pc := 16) (i := 1) F dX9_kinds_16 rfl rfl ?_
        refine v_iload_n (pc := 17) (i := 2) F dX9_kinds_17 rfl rfl ?_
        refine v_ishr (pc := 18) F dX9_kinds_18 ?_
        refine v_iconst (pc := 19) (v := nI 1) F dX9_kinds_19 (by decide) ?_
        refine v_iand (pc := 20) F dX9_kinds_20 ?_
        refine v_if_ne (pc := 21) (tgt := 31) F dX9_kinds_21 (by decide) (fun hin => ?_) (fun hin => ?_)
        · rw [tb_if (by omega)] at hin
          rw [Classical.not_not] at hin
          refine v_iload_n (pc := 31) (i := 3) F dX9_kinds_31 rfl rfl ?_
          refine v_callSI (pc := 32) (As := [_]) (rest := []) F mX9_isPlaces kX9_305 sm_X9_isPlaces dX9_kinds_32 (c_X9_isPlaces _ _) (by decide) rfl rfl (Nat.le_of_ble_eq_true rfl) (fun x37 μ37 hp37 => ?_)
          rw [hp37.1, hp37.2]
          refine v_if_eq (pc := 35) (tgt := 49) F dX9_kinds_35 (by decide) (fun htk => ?_) (fun htk => ?_)
          · rw [b2i_0] at htk
            refine v_aload_n (pc := 49) (i := 0) F dX9_kinds_49 rfl rfl ?_
            refine v_bipush (pc := 50) (v := (-2)) F dX9_kinds_50 (by decide) ?_
            refine v_callVI (pc := 52) (As := [_]) (rest := []) (c := 9) F mX9_refuse kX9_79 im_X9_refuse se_X9_refuse dX9_kinds_52 rfl rfl (by decide) (c_X9_refuse (-2) 2 (by decide) (by decide) (by decide) _) (by decide) rfl rfl (Nat.le_of_ble_eq_true rfl) lx0 (fun x39 μ39 hp39 => ?_)
            rw [hp39.1, hp39.2]
            refine v_ireturn (pc := 55) F dX9_kinds_55 (rfl) ?_
            simp only [s_kinds, rj, hnn, hqw, h5_31, ek_set, h13_34, ek_l, hin, htk, ↓reduceIte]
            refine ⟨?_, ?_⟩ <;> first | exact trivial | exact rfl | exact hR | exact Rel.rj hM hR (by decide)
          · rw [b2i_0] at htk
            rw [Classical.not_not] at htk
            refine v_iload (pc := 38) (i := 4) F dX9_kinds_38 rfl ?_
            refine v_if_eq (pc := 40) (tgt := 56) F dX9_kinds_40 (by decide) (fun h40_40 => ?_) (fun h40_40 => ?_)
            · skip
              exact absurd (show inQ 2 _ = true by rw [h40_40]; decide) hqw
            · skip
              refine v_iload (pc := 43) (i := 4) F dX9_kinds_43 rfl ?_
              refine v_iconst (pc := 45) (v := nI 1) F dX9_kinds_45 (by decide) ?_
              refine v_icmp_eq (pc := 46) (tgt := 56) F dX9_kinds_46 (by decide) (fun h46_41 => ?_) (fun h46_41 => ?_)
              · skip
                exact absurd (show inQ 2 _ = true by rw [h46_41]; decide) hqw
              · skip
                refine v_aload_n (pc := 49) (i := 0) F dX9_kinds_49 rfl rfl ?_
                refine v_bipush (pc := 50) (v := (-2)) F dX9_kinds_50 (by decide) ?_
                refine v_callVI (pc := 52) (As := [_]) (rest := []) (c := 9) F mX9_refuse kX9_79 im_X9_refuse se_X9_refuse dX9_kinds_52 rfl rfl (by decide) (c_X9_refuse (-2) 2 (by decide) (by decide) (by decide) _) (by decide) rfl rfl (Nat.le_of_ble_eq_true rfl) lx0 (fun x42 μ42 hp42 => ?_)
                rw [hp42.1, hp42.2]
                refine v_ireturn (pc := 55) F dX9_kinds_55 (rfl) ?_
                simp only [s_kinds, rj, hnn, hqw, h5_31, ek_set, h13_34, ek_l, hin, htk, h40_40, h46_41, ↓reduceIte]
                refine ⟨?_, ?_⟩ <;> first | exact trivial | exact rfl | exact hR | exact Rel.rj hM hR (by decide)
        · rw [tb_if (by omega)] at hin
          refine v_aload_n (pc := 24) (i := 0) F dX9_kinds_24 rfl rfl ?_
          refine v_bipush (pc := 25) (v := (-2)) F dX9_kinds_25 (by decide) ?_
          refine v_callVI (pc := 27) (As := [_]) (rest := []) (c := 9) F mX9_refuse kX9_79 im_X9_refuse se_X9_refuse dX9_kinds_27 rfl rfl (by decide) (c_X9_refuse (-2) 2 (by decide) (by decide) (by decide) _) (by decide) rfl rfl (Nat.le_of_ble_eq_true rfl) lx0 (fun x43 μ43 hp43 => ?_)
          rw [hp43.1, hp43.2]
          refine v_ireturn (pc := 30) F dX9_kinds_30 (rfl) ?_
          by_cases z9 : inQ 4096 taken = true <;> simp only [s_kinds, rj, hnn, hqw, h5_31, ek_set, h13_34, ek_l, hin, z9, ↓reduceIte] <;> refine ⟨?_, ?_⟩ <;> first | exact trivial | exact rfl | exact hR | exact Rel.rj hM hR (by decide)

set_option maxRecDepth 100000 in
theorem c_X9_exchanged (l o : Int32) (μ ν : j_M) (hM : MI ν) (hR : Rel μ ν) : Ct yX9_exchanged cX9_exchanged 3 (some .int) 6 ΛX [.ref 0, .int l, .int o] μ (pI fun r μ2 => r = (s_exchanged l o ν).1 ∧ Rel μ2 (s_exchanged l o ν).2) := by
  refine Ct.go (lo := [some (.ref 0), some (.int l), some (.int o)]) (by decide) (Nat.le_of_ble_eq_true rfl) rfl rfl (fun X F => ?_)
  have F : Fx X cX9_exchanged RX9 6 (some .int) ΛX := F
  obtain ⟨n, hW, hsh, htp, him⟩ := id hM
  have hn := hW.1
  have hn8 := hW.2.1
  have hnn := nn_eq hn hn8
  have ho := hW.own
  have hpw := j_pw hn8
  have hS : SQ μ 1 ν.1 n := ⟨by have := hR.sc; rwa [hnn] at this, hn8⟩
  refine v_aload_n (pc := 0) (i := 0) F dX9_exchanged_0 rfl rfl ?_
  refine v_iload_n (pc := 1) (i := 1) F dX9_exchanged_1 rfl rfl ?_
  refine v_callVI (pc := 2) (As := [_]) (rest := []) (c := 9) F mX9_isLooker kX9_126 im_X9_isLooker se_X9_isLooker dX9_exchanged_2 rfl rfl (by decide) (c_X9_isLooker _ n ν.1 _ (hS)) (by decide) rfl rfl (Nat.le_of_ble_eq_true rfl) lx0 (fun x1 μ1 hp1 => ?_)
  rw [hp1.1, hp1.2]
  refine v_if_eq (pc := 5) (tgt := 21) F dX9_exchanged_5 (by decide) (fun h5_2 => ?_) (fun h5_2 => ?_)
  · rw [b2i_0] at h5_2
    refine v_aload_n (pc := 21) (i := 0) F dX9_exchanged_21 rfl rfl ?_
    refine v_bipush (pc := 22) (v := (-2)) F dX9_exchanged_22 (by decide) ?_
    refine v_callVI (pc := 24) (As := [_]) (rest := []) (c := 9) F mX9_refuse kX9_79 im_X9_refuse se_X9_refuse dX9_exchanged_24 rfl rfl (by decide) (c_X9_refuse (-2) 2 (by decide) (by decide) (by decide) _) (by decide) rfl rfl (Nat.le_of_ble_eq_true rfl) lx0 (fun x3 μ3 hp3 => ?_)
    rw [hp3.1, hp3.2]
    refine v_ireturn (pc := 27) F dX9_exchanged_27 (rfl) ?_
    simp only [s_exchanged, rj, hnn, h5_2, ↓reduceIte]
    refine ⟨?_, ?_⟩ <;> first | exact trivial | exact rfl | exact hR | exact Rel.rj hM hR (by decide)
  · rw [b2i_0] at h5_2
    rw [Classical.not_not] at h5_2
    obtain ⟨k_l, hk_l, he_l⟩ := inR_of (by omega) h5_2
    subst he_l
    have ek_l : ix (nI k_l) = k_l := nI_clamp (by omega)
    refine v_aload_n (pc := 8) (i := 0) F dX9_exchanged_8 rfl rfl ?_
    refine v_iload_n (pc := 9) (i := 2) F dX9_exchanged_9 rfl rfl ?_
    refine v_callVI (pc := 10) (As := [_]) (rest := []) (c := 9) F mX9_isLooker kX9_126 im_X9_isLooker se_X9_isLooker dX9_exchanged_10 rfl rfl (by decide) (c_X9_isLooker _ n ν.1 _ (hS)) (by decide) rfl rfl (Nat.le_of_ble_eq_true rfl) lx0 (fun x4 μ4 hp4 => ?_)
    rw [hp4.1, hp4.2]
    refine v_if_eq (pc := 13) (tgt := 21) F dX9_exchanged_13 (by decide) (fun h13_5 => ?_) (fun h13_5 => ?_)
    · rw [b2i_0] at h13_5
      refine v_aload_n (pc := 21) (i := 0) F dX9_exchanged_21 rfl rfl ?_
      refine v_bipush (pc := 22) (v := (-2)) F dX9_exchanged_22 (by decide) ?_
      refine v_callVI (pc := 24) (As := [_]) (rest := []) (c := 9) F mX9_refuse kX9_79 im_X9_refuse se_X9_refuse dX9_exchanged_24 rfl rfl (by decide) (c_X9_refuse (-2) 2 (by decide) (by decide) (by decide) _) (by decide) rfl rfl (Nat.le_of_ble_eq_true rfl) lx0 (fun x6 μ6 hp6 => ?_)
      rw [hp6.1, hp6.2]
      refine v_ireturn (pc := 27) F dX9_exchanged_27 (rfl) ?_
      simp only [s_exchanged, rj, hnn, h5_2, ek_l, h13_5, ↓reduceIte]
      refine ⟨?_, ?_⟩ <;> first | exact trivial | exact rfl | exact hR | exact Rel.rj hM hR (by decide)
    · rw [b2i_0] at h13_5
      rw [Classical.not_not] at h13_5
      obtain ⟨k_o, hk_o, he_o⟩ := inR_of (by omega) h13_5
      subst he_o
      have ek_o : ix (nI k_o) = k_o := nI_clamp (by omega)
      refine v_iload_n (pc := 16) (i := 1) F dX9_exchanged_16 rfl rfl ?_
      refine v_iload_n (pc := 17) (i := 2) F dX9_exchanged_17 rfl rfl ?_
      refine v_icmp_ne (pc := 18) (tgt := 28) F dX9_exchanged_18 (by decide) (fun h18_7 => ?_) (fun h18_7 => ?_)
      · rw [nI_eq (by omega) (by omega)] at h18_7
        refine v_aload_n (pc := 28) (i := 0) F dX9_exchanged_28 rfl rfl ?_
        refine v_getR (pc := 29) (o := 72) F fX9_46 dX9_exchanged_29 rfl lx0 ?_
        refine v_topR (y := 72) rfl ?_
        refine v_aload_n (pc := 32) (i := 0) F dX9_exchanged_32 rfl rfl ?_
        refine v_getR (pc := 33) (o := 1) F fX9_12 dX9_exchanged_33 rfl lx0 ?_
        refine v_topR (y := 1) rfl ?_
        refine v_iload_n (pc := 36) (i := 1) F dX9_exchanged_36 rfl rfl ?_
        refine v_iload_n (pc := 37) (i := 2) F dX9_exchanged_37 rfl rfl ?_
        refine v_callVI (pc := 38) (As := [_, _, _]) (rest := []) (c := 8) F mX8_gladExchanged kX9_343 im_X8_gladExchanged se_X8_gladExchanged dX9_exchanged_38 rfl rfl (by decide) (c_X8_gladExchanged 72 (lx9_7 lx0) 1 (lx9_0 lx0) n ν.1 _ (hS) hW (by omega) k_l k_o (by omega) (by omega)) (by decide) rfl rfl (Nat.le_of_ble_eq_true rfl) (lx9_7 lx0) (fun x8 μ8 hp8 => ?_)
        rw [hp8.1]
        refine v_ireturn (pc := 41) F dX9_exchanged_41 (rfl) ?_
        simp only [s_exchanged, rj, hnn, h5_2, ek_l, h13_5, ek_o, h18_7, ↓reduceIte]
        refine ⟨?_, ?_⟩ <;> first | exact trivial | exact rfl | exact (hR.X hM hp8.2 (fun c j z => by omega)) | exact Rel.rj hM hR (by decide)
      · rw [nI_eq (by omega) (by omega)] at h18_7
        refine v_aload_n (pc := 21) (i := 0) F dX9_exchanged_21 rfl rfl ?_
        refine v_bipush (pc := 22) (v := (-2)) F dX9_exchanged_22 (by decide) ?_
        refine v_callVI (pc := 24) (As := [_]) (rest := []) (c := 9) F mX9_refuse kX9_79 im_X9_refuse se_X9_refuse dX9_exchanged_24 rfl rfl (by decide) (c_X9_refuse (-2) 2 (by decide) (by decide) (by decide) _) (by decide) rfl rfl (Nat.le_of_ble_eq_true rfl) lx0 (fun x9 μ9 hp9 => ?_)
        rw [hp9.1, hp9.2]
        refine v_ireturn (pc := 27) F dX9_exchanged_27 (rfl) ?_
        simp only [s_exchanged, rj, hnn, h5_2, ek_l, h13_5, ek_o, h18_7, ↓reduceIte]
        refine ⟨?_, ?_⟩ <;> first | exact trivial | exact rfl | exact hR | exact Rel.rj hM hR (by decide)

set_option maxRecDepth 100000 in
theorem c_X9_bestPair  (μ ν : j_M) (hM : MI ν) (hR : Rel μ ν) : Ct yX9_bestPair cX9_bestPair 1 (some .int) 7 ΛX [.ref 0] μ (pI fun r μ2 => r = (s_bestPair ν).1 ∧ Rel μ2 (s_bestPair ν).2) := by
  refine Ct.go (lo := [some (.ref 0)]) (by decide) (Nat.le_of_ble_eq_true rfl) rfl rfl (fun X F => ?_)
  have F : Fx X cX9_bestPair RX9 7 (some .int) ΛX := F
  obtain ⟨n, hW, hsh, htp, him⟩ := id hM
  have hn := hW.1
  have hn8 := hW.2.1
  have hnn := nn_eq hn hn8
  have ho := hW.own
  have hpw := j_pw hn8
  have hS : SQ μ 1 ν.1 n := ⟨by have := hR.sc; rwa [hnn] at this, hn8⟩
  refine v_aload_n (pc := 0) (i := 0) F dX9_bestPair_0 rfl rfl ?_
  refine v_getR (pc := 1) (o := 72) F fX9_46 dX9_bestPair_1 rfl lx0 ?_
  refine v_topR (y := 72) rfl ?_
  refine v_aload_n (pc := 4) (i := 0) F dX9_bestPair_4 rfl rfl ?_
  refine v_getR (pc := 5) (o := 1) F fX9_12 dX9_bestPair_5 rfl lx0 ?_
  refine v_topR (y := 1) rfl ?_
  refine v_callVI (pc := 8) (As := [_]) (rest := []) (c := 8) F mX8_bestExchange kX9_347 im_X8_bestExchange se_X8_bestExchange dX9_bestPair_8 rfl rfl (by decide) (c_X8_bestExchange 72 (lx9_7 lx0) 1 (lx9_0 lx0) n ν.1 _ (hS) hW (by omega) ) (by decide) rfl rfl (Nat.le_of_ble_eq_true rfl) (lx9_7 lx0) (fun x1 μ1 hp1 => ?_)
  rw [hp1.1]
  refine v_ireturn (pc := 11) F dX9_bestPair_11 (rfl) ?_
  simp only [s_bestPair, hnn, ↓reduceIte]
  refine ⟨?_, ?_⟩ <;> first | exact trivial | exact rfl | exact (hR.X hM hp1.2 (fun c j z => by omega)) | exact Rel.rj hM hR (by decide)

set_option maxRecDepth 100000 in
theorem c_X9_oldest (l : Int32) (μ ν : j_M) (hM : MI ν) (hR : Rel μ ν) : Ct yX9_oldest cX9_oldest 2 (some .int) 6 ΛX [.ref 0, .int l] μ (pI fun r μ2 => r = (s_oldest l ν).1 ∧ Rel μ2 (s_oldest l ν).2) := by
  refine Ct.go (lo := [some (.ref 0), some (.int l)]) (by decide) (Nat.le_of_ble_eq_true rfl) rfl rfl (fun X F => ?_)
  have F : Fx X cX9_oldest RX9 6 (some .int) ΛX := F
  obtain ⟨n, hW, hsh, htp, him⟩ := id hM
  have hn := hW.1
  have hn8 := hW.2.1
  have hnn := nn_eq hn hn8
  have ho := hW.own
  have hpw := j_pw hn8
  have hS : SQ μ 1 ν.1 n := ⟨by have := hR.sc; rwa [hnn] at this, hn8⟩
  refine v_aload_n (pc := 0) (i := 0) F dX9_oldest_0 rfl rfl ?_
  refine v_iload_n (pc := 1) (i := 1) F dX9_oldest_1 rfl rfl ?_
  refine v_callVI (pc := 2) (As := [_]) (rest := []) (c := 9) F mX9_isLooker kX9_126 im_X9_isLooker se_X9_isLooker dX9_oldest_2 rfl rfl (by decide) (c_X9_isLooker _ n ν.1 _ (hS)) (by decide) rfl rfl (Nat.le_of_ble_eq_true rfl) lx0 (fun x1 μ1 hp1 => ?_)
  rw [hp1.1, hp1.2]
  refine v_if_eq (pc := 5) (tgt := 23) F dX9_oldest_5 (by decide) (fun h5_2 => ?_) (fun h5_2 => ?_)
  · rw [b2i_0] at h5_2
    refine v_aload_n (pc := 23) (i := 0) F dX9_oldest_23 rfl rfl ?_
    refine v_bipush (pc := 24) (v := (-2)) F dX9_oldest_24 (by decide) ?_
    refine v_callVI (pc := 26) (As := [_]) (rest := []) (c := 9) F mX9_refuse kX9_79 im_X9_refuse se_X9_refuse dX9_oldest_26 rfl rfl (by decide) (c_X9_refuse (-2) 2 (by decide) (by decide) (by decide) _) (by decide) rfl rfl (Nat.le_of_ble_eq_true rfl) lx0 (fun x3 μ3 hp3 => ?_)
    rw [hp3.1, hp3.2]
    refine v_ireturn (pc := 29) F dX9_oldest_29 (rfl) ?_
    simp only [s_oldest, rj, hnn, h5_2, ↓reduceIte]
    refine ⟨?_, ?_⟩ <;> first | exact trivial | exact rfl | exact hR | exact Rel.rj hM hR (by decide)
  · rw [b2i_0] at h5_2
    rw [Classical.not_not] at h5_2
    obtain ⟨k_l, hk_l, he_l⟩ := inR_of (by omega) h5_2
    subst he_l
    have ek_l : ix (nI k_l) = k_l := nI_clamp (by omega)
    refine v_aload_n (pc := 8) (i := 0) F dX9_oldest_8 rfl rfl ?_
    refine v_getR (pc := 9) (o := 72) F fX9_46 dX9_oldest_9 rfl lx0 ?_
    refine v_topR (y := 72) rfl ?_
    refine v_aload_n (pc := 12) (i := 0) F dX9_oldest_12 rfl rfl ?_
    refine v_getR (pc := 13) (o := 1) F fX9_12 dX9_oldest_13 rfl lx0 ?_
    refine v_topR (y := 1) rfl ?_
    refine v_iload_n (pc := 16) (i := 1) F dX9_oldest_16 rfl rfl ?_
    refine v_callVI (pc := 17) (As := [_, _]) (rest := []) (c := 8) F mX8_greatestGladAge kX9_350 im_X8_greatestGladAge se_X8_greatestGladAge dX9_oldest_17 rfl rfl (by decide) (c_X8_greatestGladAge 72 (lx9_7 lx0) 1 (lx9_0 lx0) n ν.1 _ (hS) hW (by omega) k_l (by omega)) (by decide) rfl rfl (Nat.le_of_ble_eq_true rfl) (lx9_7 lx0) (fun x4 μ4 hp4 => ?_)
    rw [hp4.1]
    refine v_goto (pc := 20) (tgt := 29) F dX9_oldest_20 (by decide) ?_
    refine v_ireturn (pc := 29) F dX9_oldest_29 (rfl) ?_
    simp only [s_oldest, rj, hnn, h5_2, ek_l, ↓reduceIte]
    refine ⟨?_, ?_⟩ <;> first | exact trivial | exact rfl | exact (hR.X hM hp4.2 (fun c j z => by omega)) | exact Rel.rj hM hR (by decide)
