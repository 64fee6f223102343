/-! the class: status -/
def brP (w : Nat → Nat → Int32) (l : Nat) : Bool := !(w 7 l == -1)
def shP (w : Nat → Nat → Int32) (s : Nat) : Bool := !(w 10 s == -1)

set_option maxRecDepth 100000 in
theorem c_X4_countHad (b : Nat) (hb : j_ob ΛX b 4) (n : Nat) (w : Nat → Nat → Int32) (μ : j_M) (hS : SQ μ b w n)  : Ct yX4_countHad cX4_countHad 3 (some .int) 2 ΛX [.ref b] μ (pI fun r μ2 => r = (chK w n) ∧ μ2 = μ) := by
  refine Ct.go (lo := [some (.ref b), none, none]) (by decide) (Nat.le_of_ble_eq_true rfl) rfl rfl (fun X F => ?_)
  have F : Fx X cX4_countHad RX4 2 (some .int) ΛX := F
  have hn8 := hS.2
  refine v_iconst (pc := 0) (v := nI 0) F dX4_countHad_0 (by decide) ?_
  refine v_istore_n (pc := 1) (lo' := [some (.ref _), some (.int _), _]) F dX4_countHad_1 rfl rfl (Nat.le_of_ble_eq_true rfl) rfl ?_
  refine v_iconst (pc := 2) (v := nI 0) F dX4_countHad_2 (by decide) ?_
  refine v_istore_n (pc := 3) (lo' := [some (.ref _), some (.int _), some (.int _)]) F dX4_countHad_3 rfl rfl (Nat.le_of_ble_eq_true rfl) rfl ?_
  refine j_up n (fun k => V X _ 4 [some (.ref b), some (.int ((chK w k))), some (.int (nI k))] [] μ) (fun k hk ih => ?_) 0 (Nat.zero_le _)
  refine v_iload_n (pc := 4) (i := 2) F dX4_countHad_4 rfl rfl ?_
  refine v_aload_n (pc := 5) (i := 0) F dX4_countHad_5 rfl rfl ?_
  refine v_getI (pc := 6) F fX4_44 dX4_countHad_6 rfl hb ?_
  refine v_topE (y := nI n) (hS.1.cnt) ?_
  refine v_icmp_ge (pc := 9) (tgt := 30) F dX4_countHad_9 (by decide) (fun h9_1 => ?_) (fun h9_1 => ?_)
  · rw [nI_leI (by omega) (by omega)] at h9_1
    refine v_iload_n (pc := 30) (i := 1) F dX4_countHad_30 rfl rfl ?_
    refine v_ireturn (pc := 31) F dX4_countHad_31 (rfl) ?_
    have e : k = n := by omega
    subst e
    exact ⟨rfl, rfl⟩
  · rw [nI_leI (by omega) (by omega)] at h9_1
    refine v_iload_n (pc := 12) (i := 1) F dX4_countHad_12 rfl rfl ?_
    refine v_aload_n (pc := 13) (i := 0) F dX4_countHad_13 rfl rfl ?_
    refine v_getR (pc := 14) (o := 3) F fX4_20 dX4_countHad_14 rfl hb ?_
    refine v_topR (y := b + 3) rfl ?_
    refine v_iload_n (pc := 17) (i := 2) F dX4_countHad_17 rfl rfl ?_
    refine v_aald14N (pc := 18) (k0 := k) (x := b + 5 + 2 * k) F dX4_countHad_18 (lx4_2 hb) (rfl) (by omega) (by decide) (by simp only [j_ro]; first | rfl | omega | (split <;> omega)) ?_
    have ho2 : j_ob ΛX (b + 5 + 2 * k) 3 := by
      have q := lxL (lx4_2 hb) (j := k) (by omega)
      simp only [j_ro] at q
      exact (by first | exact q | (rw [show b + 5 + 2 * k = _ from (by first | rfl | omega)]; exact q))
    refine v_callVI (pc := 19) (As := []) (rest := [_]) (c := 3) F mX3_countHad kX4_110 im_X3_countHad se_X3_countHad dX4_countHad_19 rfl rfl (by decide) (c_X3_countHad _ ho2 k w _ ((hS).1.lk k (by omega))) (by decide) rfl rfl (Nat.le_of_ble_eq_true rfl) ho2 (fun x3 μ3 hp3 => ?_)
    rw [hp3.1, hp3.2]
    refine v_iadd (pc := 22) F dX4_countHad_22 ?_
    refine v_istore_n (pc := 23) (lo' := [some (.ref _), some (.int _), some (.int _)]) F dX4_countHad_23 rfl rfl (Nat.le_of_ble_eq_true rfl) rfl ?_
    refine v_iinc (pc := 24) (i := 2) (v := nI (k + 1)) (lo' := [some (.ref _), some (.int _), some (.int _)]) F dX4_countHad_24 rfl (j_inc _) rfl rfl ?_
    refine v_goto (pc := 27) (tgt := 4) F dX4_countHad_27 (by decide) ?_
    exact ih (by omega)

set_option maxRecDepth 100000 in
theorem c_X4_bringers (b : Nat) (hb : j_ob ΛX b 4) (n : Nat) (w : Nat → Nat → Int32) (μ : j_M) (hS : SQ μ b w n)  : Ct yX4_bringers cX4_bringers 3 (some .int) 0 ΛX [.ref b] μ (pI fun r μ2 => r = (bK (brP w) n) ∧ μ2 = μ) := by
  refine Ct.go (lo := [some (.ref b), none, none]) (by decide) (Nat.le_of_ble_eq_true rfl) rfl rfl (fun X F => ?_)
  have F : Fx X cX4_bringers RX4 0 (some .int) ΛX := F
  have hn8 := hS.2
  refine v_iconst (pc := 0) (v := nI 0) F dX4_bringers_0 (by decide) ?_
  refine v_istore_n (pc := 1) (lo' := [some (.ref _), some (.int _), _]) F dX4_bringers_1 rfl rfl (Nat.le_of_ble_eq_true rfl) rfl ?_
  refine v_iconst (pc := 2) (v := nI 0) F dX4_bringers_2 (by decide) ?_
  refine v_istore_n (pc := 3) (lo' := [some (.ref _), some (.int _), some (.int _)]) F dX4_bringers_3 rfl rfl (Nat.le_of_ble_eq_true rfl) rfl ?_
  refine j_up n (fun k => V X _ 4 [some (.ref b), some (.int ((bK (brP w) k))), some (.int (nI k))] [] μ) (fun k hk ih => ?_) 0 (Nat.zero_le _)
  refine v_iload_n (pc := 4) (i := 2) F dX4_bringers_4 rfl rfl ?_
  refine v_aload_n (pc := 5) (i := 0) F dX4_bringers_5 rfl rfl ?_
  refine v_getI (pc := 6) F fX4_44 dX4_bringers_6 rfl hb ?_
  refine v_topE (y := nI n) (hS.1.cnt) ?_
  refine v_icmp_ge (pc := 9) (tgt := 37) F dX4_bringers_9 (by decide) (fun h9_1 => ?_) (fun h9_1 => ?_)
  · rw [nI_leI (by omega) (by omega)] at h9_1
    refine v_iload_n (pc := 37) (i := 1) F dX4_bringers_37 rfl rfl ?_
    refine v_ireturn (pc := 38) F dX4_bringers_38 (rfl) ?_
    have e : k = n := by omega
    subst e
    exact ⟨rfl, rfl⟩
  · rw [nI_leI (by omega) (by omega)] at h9_1
    refine v_aload_n (pc := 12) (i := 0) F dX4_bringers_12 rfl rfl ?_
    refine v_getR (pc := 13) (o := 3) F fX4_20 dX4_bringers_13 rfl hb ?_
    refine v_topR (y := b + 3) rfl ?_
    refine v_iload_n (pc := 16) (i := 2) F dX4_bringers_16 rfl rfl ?_
    refine v_aald14N (pc := 17) (k0 := k) (x := b + 5 + 2 * k) F dX4_bringers_17 (lx4_2 hb) (rfl) (by omega) (by decide) (by simp only [j_ro]; first | rfl | omega | (split <;> omega)) ?_
    have ho2 : j_ob ΛX (b + 5 + 2 * k) 3 := by
      have q := lxL (lx4_2 hb) (j := k) (by omega)
      simp only [j_ro] at q
      exact (by first | exact q | (rw [show b + 5 + 2 * k = _ from (by first | rfl | omega)]; exact q))
    refine v_getI (pc := 18) F fX4_117 dX4_bringers_18 rfl ho2 ?_
    refine v_topE (y := (w 7 k)) ((hS.1.lk k (by omega)).sh) ?_
    refine v_iconst (pc := 21) (v := (-1)) F dX4_bringers_21 (by decide) ?_
    refine v_icmp_eq (pc := 22) (tgt := 31) F dX4_bringers_22 (by decide) (fun hc => ?_) (fun hc => ?_)
    · skip
      refine v_iinc (pc := 31) (i := 2) (v := nI (k + 1)) (lo' := [some (.ref _), some (.int _), some (.int _)]) F dX4_bringers_31 rfl (j_inc _) rfl rfl ?_
      refine v_goto (pc := 34) (tgt := 4) F dX4_bringers_34 (by decide) ?_
      have q := ih (by omega)
      first | (rw [bK_t (k := k) (by unfold brP; simpa using hc)] at q; exact q) | (rw [bK_f (k := k) (by unfold brP; simpa using hc)] at q; exact q)
    · skip
      refine v_iload_n (pc := 25) (i := 1) F dX4_bringers_25 rfl rfl ?_
      refine v_iconst (pc := 26) (v := nI 1) F dX4_bringers_26 (by decide) ?_
      refine v_iload_n (pc := 27) (i := 2) F dX4_bringers_27 rfl rfl ?_
      refine v_ishl (pc := 28) F dX4_bringers_28 ?_
      refine v_ior (pc := 29) F dX4_bringers_29 ?_
      refine v_istore_n (pc := 30) (lo' := [some (.ref _), some (.int _), some (.int _)]) F dX4_bringers_30 rfl rfl (Nat.le_of_ble_eq_true rfl) rfl ?_
      refine v_iinc (pc := 31) (i := 2) (v := nI (k + 1)) (lo' := [some (.ref _), some (.int _), some (.int _)]) F dX4_bringers_31 rfl (j_inc _) rfl rfl ?_
      refine v_goto (pc := 34) (tgt := 4) F dX4_bringers_34 (by decide) ?_
      have q := ih (by omega)
      first | (rw [bK_t (k := k) (by unfold brP; simpa using hc)] at q; exact q) | (rw [bK_f (k := k) (by unfold brP; simpa using hc)] at q; exact q)

set_option maxRecDepth 100000 in
theorem c_X9_countShelvesInUse (μ ν : j_M) (hR : Rel μ ν) : Ct yX9_countShelvesInUse cX9_countShelvesInUse 3 (some .int) 1 ΛX [.ref 0] μ (pI fun r μ2 => r = (nI (cK (shP ν.1) 8)) ∧ μ2 = μ) := by
  refine Ct.go (lo := [some (.ref 0), none, none]) (by decide) (Nat.le_of_ble_eq_true rfl) rfl rfl (fun X F => ?_)
  have F : Fx X cX9_countShelvesInUse RX9 1 (some .int) ΛX := F
  refine v_iconst (pc := 0) (v := nI 0) F dX9_countShelvesInUse_0 (by decide) ?_
  refine v_istore_n (pc := 1) (lo' := [some (.ref _), some (.int _), _]) F dX9_countShelvesInUse_1 rfl rfl (Nat.le_of_ble_eq_true rfl) rfl ?_
  refine v_iconst (pc := 2) (v := nI 0) F dX9_countShelvesInUse_2 (by decide) ?_
  refine v_istore_n (pc := 3) (lo' := [some (.ref _), some (.int _), some (.int _)]) F dX9_countShelvesInUse_3 rfl rfl (Nat.le_of_ble_eq_true rfl) rfl ?_
  refine j_up 8 (fun k => V X _ 4 [some (.ref 0), some (.int (nI ((cK (shP ν.1) k)))), some (.int (nI k))] [] μ) (fun k hk ih => ?_) 0 (Nat.zero_le _)
  refine v_iload_n (pc := 4) (i := 2) F dX9_countShelvesInUse_4 rfl rfl ?_
  refine v_bipush (pc := 5) (v := nI 8) F dX9_countShelvesInUse_5 (by decide) ?_
  refine v_icmp_ge (pc := 7) (tgt := 31) F dX9_countShelvesInUse_7 (by decide) (fun h7_1 => ?_) (fun h7_1 => ?_)
  · rw [nI_leI (by omega) (by omega)] at h7_1
    refine v_iload_n (pc := 31) (i := 1) F dX9_countShelvesInUse_31 rfl rfl ?_
    refine v_ireturn (pc := 32) F dX9_countShelvesInUse_32 (rfl) ?_
    have e : k = 8 := by omega
    subst e
    exact ⟨rfl, rfl⟩
  · rw [nI_leI (by omega) (by omega)] at h7_1
    refine v_aload_n (pc := 10) (i := 0) F dX9_countShelvesInUse_10 rfl rfl ?_
    refine v_getR (pc := 11) (o := 103) F fX9_66 dX9_countShelvesInUse_11 rfl lx0 ?_
    refine v_topR (y := 103) rfl ?_
    refine v_iload_n (pc := 14) (i := 2) F dX9_countShelvesInUse_14 rfl rfl ?_
    refine v_aald15N (pc := 15) (k0 := k) (x := 104 + 2 * k) F dX9_countShelvesInUse_15 (lx9_10 lx0) (rfl) (by omega) (by decide) (by simp only [j_ro]; first | rfl | omega | (split <;> omega)) ?_
    have ho2 : j_ob ΛX (104 + 2 * k) 5 := by
      have q := lxS (lx9_10 lx0) (j := k) (by omega)
      simp only [j_ro] at q
      exact (by first | exact q | (rw [show 104 + 2 * k = _ from (by first | rfl | omega)]; exact q))
    refine v_callVI (pc := 16) (As := []) (rest := []) (c := 5) F mX5_isNothing kX9_91 im_X5_isNothing se_X5_isNothing dX9_countShelvesInUse_16 rfl rfl (by decide) (c_X5_isNothing _ ho2 _) (by decide) rfl rfl (Nat.le_of_ble_eq_true rfl) ho2 (fun x3 μ3 hp3 => ?_)
    rw [hp3.1, hp3.2]
    rw [(hR.sf k (by omega)).1]
    refine v_if_ne (pc := 19) (tgt := 25) F dX9_countShelvesInUse_19 (by decide) (fun hc => ?_) (fun hc => ?_)
    · rw [b2i_0] at hc
      rw [Classical.not_not] at hc
      refine v_iinc (pc := 25) (i := 2) (v := nI (k + 1)) (lo' := [some (.ref _), some (.int _), some (.int _)]) F dX9_countShelvesInUse_25 rfl (j_inc _) rfl rfl ?_
      refine v_goto (pc := 28) (tgt := 4) F dX9_countShelvesInUse_28 (by decide) ?_
      have q := ih (by omega)
      first | (rw [cK_t (k := k) (by unfold shP; simpa using hc)] at q; exact q) | (rw [cK_f (k := k) (by unfold shP; simpa using hc)] at q; exact q)
    · rw [b2i_0] at hc
      refine v_iinc (pc := 22) (i := 1) (v := nI ((cK (shP ν.1) k) + 1)) (lo' := [some (.ref _), some (.int _), some (.int _)]) F dX9_countShelvesInUse_22 rfl (j_inc _) rfl rfl ?_
      refine v_iinc (pc := 25) (i := 2) (v := nI (k + 1)) (lo' := [some (.ref _), some (.int _), some (.int _)]) F dX9_countShelvesInUse_25 rfl (j_inc _) rfl rfl ?_
      refine v_goto (pc := 28) (tgt := 4) F dX9_countShelvesInUse_28 (by decide) ?_
      have q := ih (by omega)
      first | (rw [cK_t (k := k) (by unfold shP; simpa using hc)] at q; exact q) | (rw [cK_f (k := k) (by unfold shP; simpa using hc)] at q; exact q)

set_option maxRecDepth 100000 in
theorem c_X9_refusalsOf (v : Int32) (μ ν : j_M) (hR : Rel μ ν) : Ct yX9_refusalsOf cX9_refusalsOf 3 (some .int) 0 ΛX [.ref 0, .int v] μ (pI fun r μ2 => r = (if inB 12 16 v = true then ν.1 13 (ix v - 10) else -1) ∧ μ2 = μ) := by
  refine Ct.go (lo := [some (.ref 0), some (.int v), none]) (by decide) (Nat.le_of_ble_eq_true rfl) rfl rfl (fun X F => ?_)
  have F : Fx X cX9_refusalsOf RX9 0 (some .int) ΛX := F
  by_cases hb : inB 12 16 v = true
  · skip
    obtain ⟨kw, hw1, hw2, rfl⟩ := inB_of (by decide) (by decide) hb
    have ekw : ix (nI kw) = kw := ix_nI (by omega)
    refine v_iload_n (pc := 0) (i := 1) F dX9_refusalsOf_0 rfl rfl ?_
    refine v_bipush (pc := 1) (v := nI 12) F dX9_refusalsOf_1 (by decide) ?_
    refine v_isub (pc := 3) F dX9_refusalsOf_3 ?_
    refine v_topE (pk_sub (by omega)) ?_
    refine v_istore_n (pc := 4) (lo' := [some (.ref _), some (.int _), some (.int _)]) F dX9_refusalsOf_4 rfl rfl (Nat.le_of_ble_eq_true rfl) rfl ?_
    refine v_iload_n (pc := 5) (i := 2) F dX9_refusalsOf_5 rfl rfl ?_
    refine v_if_lt (pc := 6) (tgt := 14) F dX9_refusalsOf_6 (by decide) (fun h6_1 => ?_) (fun h6_1 => ?_)
    · rw [j_lt0 (by omega)] at h6_1
      exact h6_1.elim
    · rw [j_lt0 (by omega)] at h6_1
      refine v_iload_n (pc := 9) (i := 2) F dX9_refusalsOf_9 rfl rfl ?_
      refine v_iconst (pc := 10) (v := nI 4) F dX9_refusalsOf_10 (by decide) ?_
      refine v_icmp_le (pc := 11) (tgt := 16) F dX9_refusalsOf_11 (by decide) (fun h11_2 => ?_) (fun h11_2 => ?_)
      · rw [nI_leI (by omega) (by omega)] at h11_2
        refine v_aload_n (pc := 16) (i := 0) F dX9_refusalsOf_16 rfl rfl ?_
        refine v_getR (pc := 17) (o := 120) F fX9_70 dX9_refusalsOf_17 rfl lx0 ?_
        refine v_topR (y := 120) rfl ?_
        refine v_iload_n (pc := 20) (i := 2) F dX9_refusalsOf_20 rfl rfl ?_
        refine v_bipush (pc := 21) (v := (-2)) F dX9_refusalsOf_21 (by decide) ?_
        refine v_isub (pc := 23) F dX9_refusalsOf_23 ?_
        refine v_topE (y := nI ((kw - 12 + 2))) (sub_m2) ?_
        refine v_ialdN (pc := 24) (k0 := (kw - 12 + 2)) F dX9_refusalsOf_24 (lx9_11 lx0) (rfl) (by omega) (by decide) ?_
        refine v_topE (y := (ν.1 13 (kw - 10))) (by rw [show kw - 12 + 2 = kw - 10 by omega]; exact hR.rf _ (by omega)) ?_
        refine v_ireturn (pc := 25) F dX9_refusalsOf_25 (rfl) ?_
        rw [if_pos hb, ekw]
        exact ⟨rfl, rfl⟩
      · rw [nI_leI (by omega) (by omega)] at h11_2
        omega
  · skip
    refine v_iload_n (pc := 0) (i := 1) F dX9_refusalsOf_0 rfl rfl ?_
    refine v_bipush (pc := 1) (v := nI 12) F dX9_refusalsOf_1 (by decide) ?_
    refine v_isub (pc := 3) F dX9_refusalsOf_3 ?_
    refine v_istore_n (pc := 4) (lo' := [some (.ref _), some (.int _), some (.int _)]) F dX9_refusalsOf_4 rfl rfl (Nat.le_of_ble_eq_true rfl) rfl ?_
    refine v_iload_n (pc := 5) (i := 2) F dX9_refusalsOf_5 rfl rfl ?_
    refine v_if_lt (pc := 6) (tgt := 14) F dX9_refusalsOf_6 (by decide) (fun ha => ?_) (fun ha => ?_)
    · skip
      refine v_iconst (pc := 14) (v := (-1)) F dX9_refusalsOf_14 (by decide) ?_
      refine v_ireturn (pc := 15) F dX9_refusalsOf_15 (rfl) ?_
      rw [if_neg hb]
      exact ⟨rfl, rfl⟩
    · skip
      refine v_iload_n (pc := 9) (i := 2) F dX9_refusalsOf_9 rfl rfl ?_
      refine v_iconst (pc := 10) (v := nI 4) F dX9_refusalsOf_10 (by decide) ?_
      refine v_icmp_le (pc := 11) (tgt := 16) F dX9_refusalsOf_11 (by decide) (fun hg => ?_) (fun hg => ?_)
      · skip
        exact (rf_no hb ha hg).elim
      · skip
        refine v_iconst (pc := 14) (v := (-1)) F dX9_refusalsOf_14 (by decide) ?_
        refine v_ireturn (pc := 15) F dX9_refusalsOf_15 (rfl) ?_
        rw [if_neg hb]
        exact ⟨rfl, rfl⟩

set_option maxRecDepth 100000 in
theorem c_X9_status (what : Int32) (μ ν : j_M) (hM : MI ν) (hR : Rel μ ν) : Ct yX9_status cX9_status 2 (some .int) 3 ΛX [.ref 0, .int what] μ (pI fun r μ2 => r = (s_status what ν).1 ∧ Rel μ2 (s_status what ν).2) := by
  refine Ct.go (lo := [some (.ref 0), some (.int what)]) (by decide) (Nat.le_of_ble_eq_true rfl) rfl rfl (fun X F => ?_)
  have F : Fx X cX9_status RX9 3 (some .int) ΛX := F
  obtain ⟨n, hW, hsh, htp, him⟩ := id hM
  have hn := hW.1
  have hn8 := hW.2.1
  have hnn := nn_eq hn hn8
  have ho := hW.own
  have hpw := j_pw hn8
  have hS : SQ μ 1 ν.1 n := ⟨by have := hR.sc; rwa [hnn] at this, hn8⟩
  rcases inQ_c8 what with rfl | rfl | rfl | rfl | rfl | rfl | rfl | rfl | hqw
  · skip
    have hqw : inQ 8 (nI 0) = true := by decide
    have hix : ix (nI 0) = 0 := by decide
    have hc0 : (nI 0 = 0) = True := eq_true (by decide)
    have hc1 : (nI 0 = 1) = False := eq_false (by decide)
    have hc2 : (nI 0 = 2) = False := eq_false (by decide)
    have hc3 : (nI 0 = 3) = False := eq_false (by decide)
    have hc4 : (nI 0 = 4) = False := eq_false (by decide)
    have hc5 : (nI 0 = 5) = False := eq_false (by decide)
    have hc6 : (nI 0 = 6) = False := eq_false (by decide)
    have hc7 : (nI 0 = 7) = False := eq_false (by decide)
    refine v_iload_n (pc := 0) (i := 1) F dX9_status_0 rfl rfl ?_
    refine v_tin (pc := 1) (tgt := 48) F dX9_status_1 (by decide) (by decide) (by rfl) (by decide) ?_
    refine v_aload_n (pc := 48) (i := 0) F dX9_status_48 rfl rfl ?_
    refine v_getR (pc := 49) (o := 1) F fX9_12 dX9_status_49 rfl lx0 ?_
    refine v_topR (y := 1) rfl ?_
    refine v_getI (pc := 52) F fX9_299 dX9_status_52 rfl (lx9_0 lx0) ?_
    refine v_topE (y := nI n) (hS.1.cnt) ?_
    refine v_ireturn (pc := 55) F dX9_status_55 (rfl) ?_
    simp only [s_status, hnn, hqw, hix, hc0, hc1, hc2, hc3, hc4, hc5, hc6, hc7, ↓reduceIte]
    exact ⟨(by first | exact trivial | exact rfl), hR⟩
  · skip
    have hqw : inQ 8 (nI 1) = true := by decide
    have hix : ix (nI 1) = 1 := by decide
    have hc0 : (nI 1 = 0) = False := eq_false (by decide)
    have hc1 : (nI 1 = 1) = True := eq_true (by decide)
    have hc2 : (nI 1 = 2) = False := eq_false (by decide)
    have hc3 : (nI 1 = 3) = False := eq_false (by decide)
    have hc4 : (nI 1 = 4) = False := eq_false (by decide)
    have hc5 : (nI 1 = 5) = False := eq_false (by decide)
    have hc6 : (nI 1 = 6) = False := eq_false (by decide)
    have hc7 : (nI 1 = 7) = False := eq_false (by decide)
    refine v_iload_n (pc := 0) (i := 1) F dX9_status_0 rfl rfl ?_
    refine v_tin (pc := 1) (tgt := 56) F dX9_status_1 (by decide) (by decide) (by rfl) (by decide) ?_
    refine v_aload_n (pc := 56) (i := 0) F dX9_status_56 rfl rfl ?_
    refine v_getR (pc := 57) (o := 1) F fX9_12 dX9_status_57 rfl lx0 ?_
    refine v_topR (y := 1) rfl ?_
    refine v_getI (pc := 60) F fX9_150 dX9_status_60 rfl (lx9_0 lx0) ?_
    refine v_topE (y := (lfB (ν.1 1))) (hS.1.fil) ?_
    refine v_callSI (pc := 63) (As := [_]) (rest := []) F mJ6_bitCount_0f7a4 kX9_236 sm_J6_bitCount_0f7a4 dX9_status_63 (c_J6_bc _ _ _) (by decide) rfl rfl (Nat.le_of_ble_eq_true rfl) (fun x1 μ1 hp1 => ?_)
    rw [hp1.1, hp1.2]
    refine v_ireturn (pc := 66) F dX9_status_66 (rfl) ?_
    rw [show jbc (lfB (ν.1 1)) = nI (cP (fun p => !(ν.1 1 p == -1))) from jbc_bK]
    simp only [s_status, hnn, hqw, hix, hc0, hc1, hc2, hc3, hc4, hc5, hc6, hc7, ↓reduceIte]
    exact ⟨(by first | exact trivial | exact rfl), hR⟩
  · skip
    have hqw : inQ 8 (nI 2) = true := by decide
    have hix : ix (nI 2) = 2 := by decide
    have hc0 : (nI 2 = 0) = False := eq_false (by decide)
    have hc1 : (nI 2 = 1) = False := eq_false (by decide)
    have hc2 : (nI 2 = 2) = True := eq_true (by decide)
    have hc3 : (nI 2 = 3) = False := eq_false (by decide)
    have hc4 : (nI 2 = 4) = False := eq_false (by decide)
    have hc5 : (nI 2 = 5) = False := eq_false (by decide)
    have hc6 : (nI 2 = 6) = False := eq_false (by decide)
    have hc7 : (nI 2 = 7) = False := eq_false (by decide)
    refine v_iload_n (pc := 0) (i := 1) F dX9_status_0 rfl rfl ?_
    refine v_tin (pc := 1) (tgt := 67) F dX9_status_1 (by decide) (by decide) (by rfl) (by decide) ?_
    refine v_aload_n (pc := 67) (i := 0) F dX9_status_67 rfl rfl ?_
    refine v_getR (pc := 68) (o := 1) F fX9_12 dX9_status_68 rfl lx0 ?_
    refine v_topR (y := 1) rfl ?_
    refine v_callVI (pc := 71) (As := []) (rest := []) (c := 4) F mX4_countHad kX9_381 im_X4_countHad se_X4_countHad dX9_status_71 rfl rfl (by decide) (c_X4_countHad 1 (lx9_0 lx0) n ν.1 _ (hS)) (by decide) rfl rfl (Nat.le_of_ble_eq_true rfl) (lx9_0 lx0) (fun x2 μ2 hp2 => ?_)
    rw [hp2.1, hp2.2]
    refine v_ireturn (pc := 74) F dX9_status_74 (rfl) ?_
    rw [ch_has]
    simp only [s_status, hnn, hqw, hix, hc0, hc1, hc2, hc3, hc4, hc5, hc6, hc7, ↓reduceIte]
    exact ⟨(by first | exact trivial | exact rfl), hR⟩
  · skip
    have hqw : inQ 8 (nI 3) = true := by decide
    have hix : ix (nI 3) = 3 := by decide
    have hc0 : (nI 3 = 0) = False := eq_false (by decide)
    have hc1 : (nI 3 = 1) = False := eq_false (by decide)
    have hc2 : (nI 3 = 2) = False := eq_false (by decide)
    have hc3 : (nI 3 = 3) = True := eq_true (by decide)
    have hc4 : (nI 3 = 4) = False := eq_false (by decide)
    have hc5 : (nI 3 = 5) = False := eq_false (by decide)
    have hc6 : (nI 3 = 6) = False := eq_false (by decide)
    have hc7 : (nI 3 = 7) = False := eq_false (by decide)
    refine v_iload_n (pc := 0) (i := 1) F dX9_status_0 rfl rfl ?_
    refine v_tin (pc := 1) (tgt := 75) F dX9_status_1 (by decide) (by decide) (by rfl) (by decide) ?_
    refine v_aload_n (pc := 75) (i := 0) F dX9_status_75 rfl rfl ?_
    refine v_getR (pc := 76) (o := 1) F fX9_12 dX9_status_76 rfl lx0 ?_
    refine v_topR (y := 1) rfl ?_
    refine v_getI (pc := 79) F fX9_384 dX9_status_79 rfl (lx9_0 lx0) ?_
    refine v_topE (y := (ν.1 0 9)) (hS.1.evs) ?_
    refine v_ireturn (pc := 82) F dX9_status_82 (rfl) ?_
    simp only [s_status, hnn, hqw, hix, hc0, hc1, hc2, hc3, hc4, hc5, hc6, hc7, ↓reduceIte]
    exact ⟨(by first | exact trivial | exact rfl), hR⟩
  · skip
    have hqw : inQ 8 (nI 4) = true := by decide
    have hix : ix (nI 4) = 4 := by decide
    have hc0 : (nI 4 = 0) = False := eq_false (by decide)
    have hc1 : (nI 4 = 1) = False := eq_false (by decide)
    have hc2 : (nI 4 = 2) = False := eq_false (by decide)
    have hc3 : (nI 4 = 3) = False := eq_false (by decide)
    have hc4 : (nI 4 = 4) = True := eq_true (by decide)
    have hc5 : (nI 4 = 5) = False := eq_false (by decide)
    have hc6 : (nI 4 = 6) = False := eq_false (by decide)
    have hc7 : (nI 4 = 7) = False := eq_false (by decide)
    refine v_iload_n (pc := 0) (i := 1) F dX9_status_0 rfl rfl ?_
    refine v_tin (pc := 1) (tgt := 83) F dX9_status_1 (by decide) (by decide) (by rfl) (by decide) ?_
    refine v_aload_n (pc := 83) (i := 0) F dX9_status_83 rfl rfl ?_
    refine v_getR (pc := 84) (o := 1) F fX9_12 dX9_status_84 rfl lx0 ?_
    refine v_topR (y := 1) rfl ?_
    refine v_callVI (pc := 87) (As := []) (rest := []) (c := 4) F mX4_bringers kX9_387 im_X4_bringers se_X4_bringers dX9_status_87 rfl rfl (by decide) (c_X4_bringers 1 (lx9_0 lx0) n ν.1 _ (hS)) (by decide) rfl rfl (Nat.le_of_ble_eq_true rfl) (lx9_0 lx0) (fun x3 μ3 hp3 => ?_)
    rw [hp3.1, hp3.2]
    refine v_callSI (pc := 90) (As := [_]) (rest := []) F mJ6_bitCount_0f7a4 kX9_236 sm_J6_bitCount_0f7a4 dX9_status_90 (c_J6_bc _ _ _) (by decide) rfl rfl (Nat.le_of_ble_eq_true rfl) (fun x4 μ4 hp4 => ?_)
    rw [hp4.1, hp4.2]
    refine v_ireturn (pc := 93) F dX9_status_93 (rfl) ?_
    rw [jbc_k hn8]
    simp only [s_status, hnn, hqw, hix, hc0, hc1, hc2, hc3, hc4, hc5, hc6, hc7, ↓reduceIte]
    exact ⟨(by first | exact trivial | exact rfl), hR⟩
  · skip
    have hqw : inQ 8 (nI 5) = true := by decide
    have hix : ix (nI 5) = 5 := by decide
    have hc0 : (nI 5 = 0) = False := eq_false (by decide)
    have hc1 : (nI 5 = 1) = False := eq_false (by decide)
    have hc2 : (nI 5 = 2) = False := eq_false (by decide)
    have hc3 : (nI 5 = 3) = False := eq_false (by decide)
    have hc4 : (nI 5 = 4) = False := eq_false (by decide)
    have hc5 : (nI 5 = 5) = True := eq_true (by decide)
    have hc6 : (nI 5 = 6) = False := eq_false (by decide)
    have hc7 : (nI 5 = 7) = False := eq_false (by decide)
    refine v_iload_n (pc := 0) (i := 1) F dX9_status_0 rfl rfl ?_
    refine v_tin (pc := 1) (tgt := 94) F dX9_status_1 (by decide) (by decide) (by rfl) (by decide) ?_
    refine v_aload_n (pc := 94) (i := 0) F dX9_status_94 rfl rfl ?_
    refine v_getR (pc := 95) (o := 101) F fX9_60 dX9_status_95 rfl lx0 ?_
    refine v_topR (y := 101) rfl ?_
    refine v_getI (pc := 98) F fX9_209 dX9_status_98 rfl (lx9_9 lx0) ?_
    refine v_topE (y := (ν.1 0 11)) (hR.tq.1) ?_
    refine v_ireturn (pc := 101) F dX9_status_101 (rfl) ?_
    simp only [s_status, hnn, hqw, hix, hc0, hc1, hc2, hc3, hc4, hc5, hc6, hc7, ↓reduceIte]
    exact ⟨(by first | exact trivial | exact rfl), hR⟩
  · skip
    have hqw : inQ 8 (nI 6) = true := by decide
    have hix : ix (nI 6) = 6 := by decide
    have hc0 : (nI 6 = 0) = False := eq_false (by decide)
    have hc1 : (nI 6 = 1) = False := eq_false (by decide)
    have hc2 : (nI 6 = 2) = False := eq_false (by decide)
    have hc3 : (nI 6 = 3) = False := eq_false (by decide)
    have hc4 : (nI 6 = 4) = False := eq_false (by decide)
    have hc5 : (nI 6 = 5) = False := eq_false (by decide)
    have hc6 : (nI 6 = 6) = True := eq_true (by decide)
    have hc7 : (nI 6 = 7) = False := eq_false (by decide)
    refine v_iload_n (pc := 0) (i := 1) F dX9_status_0 rfl rfl ?_
    refine v_tin (pc := 1) (tgt := 102) F dX9_status_1 (by decide) (by decide) (by rfl) (by decide) ?_
    refine v_aload_n (pc := 102) (i := 0) F dX9_status_102 rfl rfl ?_
    refine v_getR (pc := 103) (o := 1) F fX9_12 dX9_status_103 rfl lx0 ?_
    refine v_topR (y := 1) rfl ?_
    refine v_getI (pc := 106) F fX9_374 dX9_status_106 rfl (lx9_0 lx0) ?_
    refine v_topE (y := (ν.1 0 10)) (hS.1.sed) ?_
    refine v_ireturn (pc := 109) F dX9_status_109 (rfl) ?_
    simp only [s_status, hnn, hqw, hix, hc0, hc1, hc2, hc3, hc4, hc5, hc6, hc7, ↓reduceIte]
    exact ⟨(by first | exact trivial | exact rfl), hR⟩
  · skip
    have hqw : inQ 8 (nI 7) = true := by decide
    have hix : ix (nI 7) = 7 := by decide
    have hc0 : (nI 7 = 0) = False := eq_false (by decide)
    have hc1 : (nI 7 = 1) = False := eq_false (by decide)
    have hc2 : (nI 7 = 2) = False := eq_false (by decide)
    have hc3 : (nI 7 = 3) = False := eq_false (by decide)
    have hc4 : (nI 7 = 4) = False := eq_false (by decide)
    have hc5 : (nI 7 = 5) = False := eq_false (by decide)
    have hc6 : (nI 7 = 6) = False := eq_false (by decide)
    have hc7 : (nI 7 = 7) = True := eq_true (by decide)
    refine v_iload_n (pc := 0) (i := 1) F dX9_status_0 rfl rfl ?_
    refine v_tin (pc := 1) (tgt := 110) F dX9_status_1 (by decide) (by decide) (by rfl) (by decide) ?_
    refine v_aload_n (pc := 110) (i := 0) F dX9_status_110 rfl rfl ?_
    refine v_callVI (pc := 111) (As := []) (rest := []) (c := 9) F mX9_countShelvesInUse kX9_390 im_X9_countShelvesInUse se_X9_countShelvesInUse dX9_status_111 rfl rfl (by decide) (c_X9_countShelvesInUse _ ν hR) (by decide) rfl rfl (Nat.le_of_ble_eq_true rfl) lx0 (fun x5 μ5 hp5 => ?_)
    rw [hp5.1, hp5.2]
    refine v_ireturn (pc := 114) F dX9_status_114 (rfl) ?_
    simp only [s_status, hnn, hqw, hix, hc0, hc1, hc2, hc3, hc4, hc5, hc6, hc7, ↓reduceIte]
    exact ⟨(by first | exact trivial | exact rfl), hR⟩
  · skip
    have hc0 : (what = 0) = False := eq_false (fun z => hqw (by rw [z]; decide))
    have hc1 : (what = 1) = False := eq_false (fun z => hqw (by rw [z]; decide))
    have hc2 : (what = 2) = False := eq_false (fun z => hqw (by rw [z]; decide))
    have hc3 : (what = 3) = False := eq_false (fun z => hqw (by rw [z]; decide))
    have hc4 : (what = 4) = False := eq_false (fun z => hqw (by rw [z]; decide))
    have hc5 : (what = 5) = False := eq_false (fun z => hqw (by rw [z]; decide))
    have hc6 : (what = 6) = False := eq_false (fun z => hqw (by rw [z]; decide))
    have hc7 : (what = 7) = False := eq_false (fun z => hqw (by rw [z]; decide))
    refine v_iload_n (pc := 0) (i := 1) F dX9_status_0 rfl rfl ?_
    refine v_tout (pc := 1) (tgt := 115) F dX9_status_1 (by have := inQ_out (by decide) hqw; omega) (by decide) ?_
    refine v_aload_n (pc := 115) (i := 0) F dX9_status_115 rfl rfl ?_
    refine v_iload_n (pc := 116) (i := 1) F dX9_status_116 rfl rfl ?_
    refine v_callVI (pc := 117) (As := [_]) (rest := []) (c := 9) F mX9_refusalsOf kX9_393 im_X9_refusalsOf se_X9_refusalsOf dX9_status_117 rfl rfl (by decide) (c_X9_refusalsOf what _ ν hR) (by decide) rfl rfl (Nat.le_of_ble_eq_true rfl) lx0 (fun x6 μ6 hp6 => ?_)
    rw [hp6.1, hp6.2]
    refine v_ireturn (pc := 120) F dX9_status_120 (rfl) ?_
    simp only [s_status, hnn, hqw, hc0, hc1, hc2, hc3, hc4, hc5, hc6, hc7, ↓reduceIte]
    by_cases hb : inB 12 16 what = true
    · simp only [hb, ↓reduceIte]; exact ⟨(by first | exact trivial | exact rfl), hR⟩
    · simp only [hb, ↓reduceIte, Bool.false_eq_true]; exact ⟨(by first | exact trivial | exact rfl), hR⟩
