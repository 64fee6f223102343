/-! the class: a look -/
theorem tb_if {l : Nat} (hl : l < 32) {b : Int32} : ((b >>> (nI l &&& 31)) &&& nI 1 = 0) = (¬ tb b l = true) := by
  rw [show nI 1 = (1 : Int32) from rfl, tb_in0 hl]
  exact propext ⟨fun h => by rw [h]; decide, fun h => by simpa using h⟩

set_option maxRecDepth 100000 in
theorem c_X4_everybody (b : Nat) (hb : j_ob ΛX b 4) (n : Nat) (w : Nat → Nat → Int32) (μ : j_M) (hS : SQ μ b w n)  : Ct yX4_everybody cX4_everybody 1 (some .int) 0 ΛX [.ref b] μ (pI fun r μ2 => r = (alI n) ∧ μ2 = μ) := by
  refine Ct.go (lo := [some (.ref b)]) (by decide) (Nat.le_of_ble_eq_true rfl) rfl rfl (fun X F => ?_)
  have F : Fx X cX4_everybody RX4 0 (some .int) ΛX := F
  have hn8 := hS.2
  have hpw := j_pw hn8
  refine v_iconst (pc := 0) (v := nI 1) F dX4_everybody_0 (by decide) ?_
  refine v_aload_n (pc := 1) (i := 0) F dX4_everybody_1 rfl rfl ?_
  refine v_getI (pc := 2) F fX4_44 dX4_everybody_2 rfl hb ?_
  refine v_topE (y := nI n) (hS.1.cnt) ?_
  refine v_ishl (pc := 5) F dX4_everybody_5 ?_
  refine v_topE (y := nI ((2 ^ n))) (j_pow hn8) ?_
  refine v_iconst (pc := 6) (v := nI 1) F dX4_everybody_6 (by decide) ?_
  refine v_isub (pc := 7) F dX4_everybody_7 ?_
  refine v_topE (pk_sub (by omega)) ?_
  refine v_ireturn (pc := 8) F dX4_everybody_8 (rfl) ?_
  exact ⟨rfl, rfl⟩

set_option maxRecDepth 100000 in
theorem c_X4_isFull (b : Nat) (hb : j_ob ΛX b 4) (n : Nat) (w : Nat → Nat → Int32) (μ : j_M) (hS : SQ μ b w n)  : Ct yX4_isFull cX4_isFull 1 (some .boolean) 0 ΛX [.ref b] μ (pI fun r μ2 => r = (b2i (n = 8)) ∧ μ2 = μ) := by
  refine Ct.go (lo := [some (.ref b)]) (by decide) (Nat.le_of_ble_eq_true rfl) rfl rfl (fun X F => ?_)
  have F : Fx X cX4_isFull RX4 0 (some .boolean) ΛX := F
  have hn8 := hS.2
  refine v_aload_n (pc := 0) (i := 0) F dX4_isFull_0 rfl rfl ?_
  refine v_getI (pc := 1) F fX4_44 dX4_isFull_1 rfl hb ?_
  refine v_topE (y := nI n) (hS.1.cnt) ?_
  refine v_bipush (pc := 4) (v := nI 8) F dX4_isFull_4 (by decide) ?_
  refine v_icmp_lt (pc := 6) (tgt := 13) F dX4_isFull_6 (by decide) (fun hc => ?_) (fun hc => ?_)
  · rw [nI_ltI (by omega) (by omega)] at hc
    refine v_iconst (pc := 13) (v := nI 0) F dX4_isFull_13 (by decide) ?_
    refine v_ireturn (pc := 14) F dX4_isFull_14 (rfl) ?_
    refine ⟨?_, rfl⟩
    first | exact b2i_n (by omega) | exact b2i_y (by omega)
  · rw [nI_ltI (by omega) (by omega)] at hc
    refine v_iconst (pc := 9) (v := nI 1) F dX4_isFull_9 (by decide) ?_
    refine v_goto (pc := 10) (tgt := 14) F dX4_isFull_10 (by decide) ?_
    refine v_ireturn (pc := 14) F dX4_isFull_14 (rfl) ?_
    refine ⟨?_, rfl⟩
    first | exact b2i_n (by omega) | exact b2i_y (by omega)

set_option maxRecDepth 100000 in
theorem c_X9_isSet (v : Int32) (n : Nat) (w : Nat → Nat → Int32) (μ : j_M) (hS : SQ μ 1 w n) : Ct yX9_isSet cX9_isSet 2 (some .boolean) 1 ΛX [.ref 0, .int v] μ (pI fun r μ2 => r = (b2i (inQ (2 ^ n) v = true)) ∧ μ2 = μ) := by
  refine Ct.go (lo := [some (.ref 0), some (.int v)]) (by decide) (Nat.le_of_ble_eq_true rfl) rfl rfl (fun X F => ?_)
  have F : Fx X cX9_isSet RX9 1 (some .boolean) ΛX := F
  have hn8 := hS.2
  refine v_iload_n (pc := 0) (i := 1) F dX9_isSet_0 rfl rfl ?_
  refine v_aload_n (pc := 1) (i := 0) F dX9_isSet_1 rfl rfl ?_
  refine v_getR (pc := 2) (o := 1) F fX9_12 dX9_isSet_2 rfl lx0 ?_
  refine v_topR (y := 1) rfl ?_
  refine v_callVI (pc := 5) (As := []) (rest := [_]) (c := 4) F mX4_everybody kX9_279 im_X4_everybody se_X4_everybody dX9_isSet_5 rfl rfl (by decide) (c_X4_everybody 1 (lx9_0 lx0) n w _ (hS)) (by decide) rfl rfl (Nat.le_of_ble_eq_true rfl) (lx9_0 lx0) (fun x1 μ1 hp1 => ?_)
  rw [hp1.1, hp1.2]
  refine v_iconst (pc := 8) (v := (-1)) F dX9_isSet_8 (by decide) ?_
  refine v_ixor (pc := 9) F dX9_isSet_9 ?_
  refine v_iand (pc := 10) F dX9_isSet_10 ?_
  refine v_if_ne (pc := 11) (tgt := 18) F dX9_isSet_11 (by decide) (fun hz => ?_) (fun hz => ?_)
  · rw [isS_iff (by omega)] at hz
    refine v_iconst (pc := 18) (v := nI 0) F dX9_isSet_18 (by decide) ?_
    refine v_ireturn (pc := 19) F dX9_isSet_19 (rfl) ?_
    refine ⟨?_, rfl⟩
    first | exact b2i_y hz | exact b2i_n hz | exact b2i_y (Classical.not_not.mp hz)
  · rw [isS_iff (by omega)] at hz
    refine v_iconst (pc := 14) (v := nI 1) F dX9_isSet_14 (by decide) ?_
    refine v_goto (pc := 15) (tgt := 19) F dX9_isSet_15 (by decide) ?_
    refine v_ireturn (pc := 19) F dX9_isSet_19 (rfl) ?_
    refine ⟨?_, rfl⟩
    first | exact b2i_y hz | exact b2i_n hz | exact b2i_y (Classical.not_not.mp hz)

set_option maxRecDepth 100000 in
theorem c_X9_isLooker (v : Int32) (n : Nat) (w : Nat → Nat → Int32) (μ : j_M) (hS : SQ μ 1 w n) : Ct yX9_isLooker cX9_isLooker 2 (some .boolean) 0 ΛX [.ref 0, .int v] μ (pI fun r μ2 => r = (b2i (inQ n v = true)) ∧ μ2 = μ) := by
  refine Ct.go (lo := [some (.ref 0), some (.int v)]) (by decide) (Nat.le_of_ble_eq_true rfl) rfl rfl (fun X F => ?_)
  have F : Fx X cX9_isLooker RX9 0 (some .boolean) ΛX := F
  refine v_iload_n (pc := 0) (i := 1) F dX9_isLooker_0 rfl rfl ?_
  refine v_if_lt (pc := 1) (tgt := 19) F dX9_isLooker_1 (by decide) (fun h1_1 => ?_) (fun h1_1 => ?_)
  · skip
    refine v_iconst (pc := 19) (v := nI 0) F dX9_isLooker_19 (by decide) ?_
    refine v_ireturn (pc := 20) F dX9_isLooker_20 (rfl) ?_
    refine ⟨?_, rfl⟩
    rw [b2i_congr (propext inQ_def)]
    simp only [j_n0, j_n1, b2i] at *
    grind
  · skip
    refine v_iload_n (pc := 4) (i := 1) F dX9_isLooker_4 rfl rfl ?_
    refine v_aload_n (pc := 5) (i := 0) F dX9_isLooker_5 rfl rfl ?_
    refine v_getR (pc := 6) (o := 1) F fX9_12 dX9_isLooker_6 rfl lx0 ?_
    refine v_topR (y := 1) rfl ?_
    refine v_getI (pc := 9) F fX9_299 dX9_isLooker_9 rfl (lx9_0 lx0) ?_
    refine v_topE (y := nI n) (hS.1.cnt) ?_
    refine v_icmp_ge (pc := 12) (tgt := 19) F dX9_isLooker_12 (by decide) (fun h12_2 => ?_) (fun h12_2 => ?_)
    · skip
      refine v_iconst (pc := 19) (v := nI 0) F dX9_isLooker_19 (by decide) ?_
      refine v_ireturn (pc := 20) F dX9_isLooker_20 (rfl) ?_
      refine ⟨?_, rfl⟩
      rw [b2i_congr (propext inQ_def)]
      simp only [j_n0, j_n1, b2i] at *
      grind
    · skip
      refine v_iconst (pc := 15) (v := nI 1) F dX9_isLooker_15 (by decide) ?_
      refine v_goto (pc := 16) (tgt := 20) F dX9_isLooker_16 (by decide) ?_
      refine v_ireturn (pc := 20) F dX9_isLooker_20 (rfl) ?_
      refine ⟨?_, rfl⟩
      rw [b2i_congr (propext inQ_def)]
      simp only [j_n0, j_n1, b2i] at *
      grind

set_option maxRecDepth 100000 in
theorem c_X3_wanted (x : Nat) (hx : j_ob ΛX x 3) (l : Nat) (w : Nat → Nat → Int32) (μ : j_M) (hL : LK μ x w l)  : Ct yX3_wanted cX3_wanted 1 (some .int) 0 ΛX [.ref x] μ (pI fun r μ2 => r = (w 5 l ||| ((1 : Int32) <<< (w 3 l &&& 31))) ∧ μ2 = μ) := by
  refine Ct.go (lo := [some (.ref x)]) (by decide) (Nat.le_of_ble_eq_true rfl) rfl rfl (fun X F => ?_)
  have F : Fx X cX3_wanted RX3 0 (some .int) ΛX := F
  refine v_aload_n (pc := 0) (i := 0) F dX3_wanted_0 rfl rfl ?_
  refine v_getI (pc := 1) F fX3_25 dX3_wanted_1 rfl hx ?_
  refine v_topE (y := (w 5 l)) (hL.li) ?_
  refine v_iconst (pc := 4) (v := nI 1) F dX3_wanted_4 (by decide) ?_
  refine v_aload_n (pc := 5) (i := 0) F dX3_wanted_5 rfl rfl ?_
  refine v_getI (pc := 6) F fX3_19 dX3_wanted_6 rfl hx ?_
  refine v_topE (y := (w 3 l)) (hL.a) ?_
  refine v_ishl (pc := 9) F dX3_wanted_9 ?_
  refine v_ior (pc := 10) F dX3_wanted_10 ?_
  refine v_ireturn (pc := 11) F dX3_wanted_11 (rfl) ?_
  exact ⟨rfl, rfl⟩

set_option maxRecDepth 100000 in
theorem c_X3_countHad (x : Nat) (hx : j_ob ΛX x 3) (l : Nat) (w : Nat → Nat → Int32) (μ : j_M) (hL : LK μ x w l)  : Ct yX3_countHad cX3_countHad 3 (some .int) 0 ΛX [.ref x] μ (pI fun r μ2 => r = (hsK (w 8) l 8) ∧ μ2 = μ) := by
  refine Ct.go (lo := [some (.ref x), none, none]) (by decide) (Nat.le_of_ble_eq_true rfl) rfl rfl (fun X F => ?_)
  have F : Fx X cX3_countHad RX3 0 (some .int) ΛX := F
  refine v_iconst (pc := 0) (v := nI 0) F dX3_countHad_0 (by decide) ?_
  refine v_istore_n (pc := 1) (lo' := [some (.ref _), some (.int _), _]) F dX3_countHad_1 rfl rfl (Nat.le_of_ble_eq_true rfl) rfl ?_
  refine v_iconst (pc := 2) (v := nI 0) F dX3_countHad_2 (by decide) ?_
  refine v_istore_n (pc := 3) (lo' := [some (.ref _), some (.int _), some (.int _)]) F dX3_countHad_3 rfl rfl (Nat.le_of_ble_eq_true rfl) rfl ?_
  refine j_up 8 (fun k => V X _ 4 [some (.ref x), some (.int ((hsK (w 8) l k))), some (.int (nI k))] [] μ) (fun k hk ih => ?_) 0 (Nat.zero_le _)
  refine v_iload_n (pc := 4) (i := 2) F dX3_countHad_4 rfl rfl ?_
  refine v_bipush (pc := 5) (v := nI 8) F dX3_countHad_5 (by decide) ?_
  refine v_icmp_ge (pc := 7) (tgt := 25) F dX3_countHad_7 (by decide) (fun h7_1 => ?_) (fun h7_1 => ?_)
  · rw [nI_leI (by omega) (by omega)] at h7_1
    refine v_iload_n (pc := 25) (i := 1) F dX3_countHad_25 rfl rfl ?_
    refine v_ireturn (pc := 26) F dX3_countHad_26 (rfl) ?_
    have e : k = 8 := by omega
    subst e
    exact ⟨rfl, rfl⟩
  · rw [nI_leI (by omega) (by omega)] at h7_1
    refine v_iload_n (pc := 10) (i := 1) F dX3_countHad_10 rfl rfl ?_
    refine v_aload_n (pc := 11) (i := 0) F dX3_countHad_11 rfl rfl ?_
    refine v_getR (pc := 12) (o := 1) F fX3_9 dX3_countHad_12 rfl hx ?_
    refine v_topR (y := x + 1) rfl ?_
    refine v_iload_n (pc := 15) (i := 2) F dX3_countHad_15 rfl rfl ?_
    refine v_ialdN (pc := 16) (k0 := k) F dX3_countHad_16 (lx3_0 hx) (rfl) (by omega) (by decide) ?_
    refine v_topE (y := (w 8 (8 * l + k))) (hL.ha k (by omega)) ?_
    refine v_iadd (pc := 17) F dX3_countHad_17 ?_
    refine v_istore_n (pc := 18) (lo' := [some (.ref _), some (.int _), some (.int _)]) F dX3_countHad_18 rfl rfl (Nat.le_of_ble_eq_true rfl) rfl ?_
    refine v_iinc (pc := 19) (i := 2) (v := nI (k + 1)) (lo' := [some (.ref _), some (.int _), some (.int _)]) F dX3_countHad_19 rfl (j_inc _) rfl rfl ?_
    refine v_goto (pc := 22) (tgt := 4) F dX3_countHad_22 (by decide) ?_
    exact ih (by omega)

set_option maxRecDepth 100000 in
theorem c_X4_placesWithAny (b : Nat) (hb : j_ob ΛX b 4) (n : Nat) (w : Nat → Nat → Int32) (μ : j_M) (hS : SQ μ b w n) (sb : Int32) : Ct yX4_placesWithAny cX4_placesWithAny 4 (some .int) 0 ΛX [.ref b, .int sb] μ (pI fun r μ2 => r = (paK w sb 8) ∧ μ2 = μ) := by
  refine Ct.go (lo := [some (.ref b), some (.int sb), none, none]) (by decide) (Nat.le_of_ble_eq_true rfl) rfl rfl (fun X F => ?_)
  have F : Fx X cX4_placesWithAny RX4 0 (some .int) ΛX := F
  refine v_iconst (pc := 0) (v := nI 0) F dX4_placesWithAny_0 (by decide) ?_
  refine v_istore_n (pc := 1) (lo' := [some (.ref _), some (.int _), some (.int _), _]) F dX4_placesWithAny_1 rfl rfl (Nat.le_of_ble_eq_true rfl) rfl ?_
  refine v_iconst (pc := 2) (v := nI 0) F dX4_placesWithAny_2 (by decide) ?_
  refine v_istore_n (pc := 3) (lo' := [some (.ref _), some (.int _), some (.int _), some (.int _)]) F dX4_placesWithAny_3 rfl rfl (Nat.le_of_ble_eq_true rfl) rfl ?_
  refine j_up 8 (fun k => V X _ 4 [some (.ref b), some (.int sb), some (.int ((paK w sb k))), some (.int (nI k))] [] μ) (fun k hk ih => ?_) 0 (Nat.zero_le _)
  refine v_iload_n (pc := 4) (i := 3) F dX4_placesWithAny_4 rfl rfl ?_
  refine v_bipush (pc := 5) (v := nI 8) F dX4_placesWithAny_5 (by decide) ?_
  refine v_icmp_ge (pc := 7) (tgt := 33) F dX4_placesWithAny_7 (by decide) (fun h7_1 => ?_) (fun h7_1 => ?_)
  · rw [nI_leI (by omega) (by omega)] at h7_1
    refine v_iload_n (pc := 33) (i := 2) F dX4_placesWithAny_33 rfl rfl ?_
    refine v_ireturn (pc := 34) F dX4_placesWithAny_34 (rfl) ?_
    have e : k = 8 := by omega
    subst e
    exact ⟨rfl, rfl⟩
  · rw [nI_leI (by omega) (by omega)] at h7_1
    refine v_iload_n (pc := 10) (i := 1) F dX4_placesWithAny_10 rfl rfl ?_
    refine v_iload_n (pc := 11) (i := 3) F dX4_placesWithAny_11 rfl rfl ?_
    refine v_ishr (pc := 12) F dX4_placesWithAny_12 ?_
    refine v_iconst (pc := 13) (v := nI 1) F dX4_placesWithAny_13 (by decide) ?_
    refine v_iand (pc := 14) F dX4_placesWithAny_14 ?_
    refine v_if_eq (pc := 15) (tgt := 27) F dX4_placesWithAny_15 (by decide) (fun ht => ?_) (fun ht => ?_)
    · rw [tb_if (by omega)] at ht
      refine v_iinc (pc := 27) (i := 3) (v := nI (k + 1)) (lo' := [some (.ref _), some (.int _), some (.int _), some (.int _)]) F dX4_placesWithAny_27 rfl (j_inc _) rfl rfl ?_
      refine v_goto (pc := 30) (tgt := 4) F dX4_placesWithAny_30 (by decide) ?_
      have q := ih (by omega)
      first | (rw [paK_t ht] at q; exact q) | (rw [paK_f ht] at q; exact q)
    · rw [tb_if (by omega)] at ht
      rw [Classical.not_not] at ht
      refine v_iload_n (pc := 18) (i := 2) F dX4_placesWithAny_18 rfl rfl ?_
      refine v_aload_n (pc := 19) (i := 0) F dX4_placesWithAny_19 rfl rfl ?_
      refine v_getR (pc := 20) (o := 2) F fX4_15 dX4_placesWithAny_20 rfl hb ?_
      refine v_topR (y := b + 2) rfl ?_
      refine v_iload_n (pc := 23) (i := 3) F dX4_placesWithAny_23 rfl rfl ?_
      refine v_ialdN (pc := 24) (k0 := k) F dX4_placesWithAny_24 (lx4_1 hb) (rfl) (by omega) (by decide) ?_
      refine v_topE (y := (pwB w k)) (hS.1.plw k (by omega)) ?_
      refine v_ior (pc := 25) F dX4_placesWithAny_25 ?_
      refine v_istore_n (pc := 26) (lo' := [some (.ref _), some (.int _), some (.int _), some (.int _)]) F dX4_placesWithAny_26 rfl rfl (Nat.le_of_ble_eq_true rfl) rfl ?_
      refine v_iinc (pc := 27) (i := 3) (v := nI (k + 1)) (lo' := [some (.ref _), some (.int _), some (.int _), some (.int _)]) F dX4_placesWithAny_27 rfl (j_inc _) rfl rfl ?_
      refine v_goto (pc := 30) (tgt := 4) F dX4_placesWithAny_30 (by decide) ?_
      have q := ih (by omega)
      first | (rw [paK_t ht] at q; exact q) | (rw [paK_f ht] at q; exact q)

set_option maxRecDepth 100000 in
theorem c_X4_takesTwice (x y : Int32) (μ : j_M) : Ct yX4_takesTwice cX4_takesTwice 4 (some .int) 2 ΛX [.int x, .int y] μ (pI fun r μ2 => r = (ttS x y) ∧ μ2 = μ) := by
  refine Ct.go (lo := [some (.int x), some (.int y), none, none]) (by decide) (Nat.le_of_ble_eq_true rfl) rfl rfl (fun X F => ?_)
  have F : Fx X cX4_takesTwice RX4 2 (some .int) ΛX := F
  refine v_iload_n (pc := 0) (i := 0) F dX4_takesTwice_0 rfl rfl ?_
  refine v_if_eq (pc := 1) (tgt := 8) F dX4_takesTwice_1 (by decide) (fun h1 => ?_) (fun h1 => ?_)
  · skip
    refine v_iload_n (pc := 8) (i := 1) F dX4_takesTwice_8 rfl rfl ?_
    refine v_callSI (pc := 9) (As := [_]) (rest := []) F mJ6_lowestOneBit_0f7a4 kX4_101 sm_J6_lowestOneBit_0f7a4 dX4_takesTwice_9 (c_J6_lob _ _ _) (by decide) rfl rfl (Nat.le_of_ble_eq_true rfl) (fun x2 μ2 hp2 => ?_)
    rw [hp2.1, hp2.2]
    refine v_istore_n (pc := 12) (lo' := [some (.int _), some (.int _), some (.int _), _]) F dX4_takesTwice_12 rfl rfl (Nat.le_of_ble_eq_true rfl) rfl ?_
    refine v_iload_n (pc := 13) (i := 0) F dX4_takesTwice_13 rfl rfl ?_
    refine v_iload_n (pc := 14) (i := 2) F dX4_takesTwice_14 rfl rfl ?_
    refine v_iconst (pc := 15) (v := (-1)) F dX4_takesTwice_15 (by decide) ?_
    refine v_ixor (pc := 16) F dX4_takesTwice_16 ?_
    refine v_iand (pc := 17) F dX4_takesTwice_17 ?_
    refine v_istore_n (pc := 18) (lo' := [some (.int _), some (.int _), some (.int _), some (.int _)]) F dX4_takesTwice_18 rfl rfl (Nat.le_of_ble_eq_true rfl) rfl ?_
    refine v_iload_n (pc := 19) (i := 2) F dX4_takesTwice_19 rfl rfl ?_
    refine v_iload_n (pc := 20) (i := 3) F dX4_takesTwice_20 rfl rfl ?_
    refine v_if_eq (pc := 21) (tgt := 28) F dX4_takesTwice_21 (by decide) (fun h2 => ?_) (fun h2 => ?_)
    · skip
      refine v_iload_n (pc := 28) (i := 1) F dX4_takesTwice_28 rfl rfl ?_
      refine v_iload_n (pc := 29) (i := 2) F dX4_takesTwice_29 rfl rfl ?_
      refine v_iconst (pc := 30) (v := (-1)) F dX4_takesTwice_30 (by decide) ?_
      refine v_ixor (pc := 31) F dX4_takesTwice_31 ?_
      refine v_iand (pc := 32) F dX4_takesTwice_32 ?_
      refine v_callSI (pc := 33) (As := [_]) (rest := [_]) F mJ6_lowestOneBit_0f7a4 kX4_101 sm_J6_lowestOneBit_0f7a4 dX4_takesTwice_33 (c_J6_lob _ _ _) (by decide) rfl rfl (Nat.le_of_ble_eq_true rfl) (fun x4 μ4 hp4 => ?_)
      rw [hp4.1, hp4.2]
      refine v_ior (pc := 36) F dX4_takesTwice_36 ?_
      refine v_ireturn (pc := 37) F dX4_takesTwice_37 (rfl) ?_
      refine ⟨?_, rfl⟩
      unfold ttS
      first | (rw [if_pos h1, if_pos h2]; done) | (rw [if_pos h1, if_neg h2]; done) | (rw [if_neg h1, if_pos h2]; done) | (rw [if_neg h1, if_neg h2]; done)
    · skip
      refine v_iload_n (pc := 24) (i := 3) F dX4_takesTwice_24 rfl rfl ?_
      refine v_goto (pc := 25) (tgt := 33) F dX4_takesTwice_25 (by decide) ?_
      refine v_callSI (pc := 33) (As := [_]) (rest := [_]) F mJ6_lowestOneBit_0f7a4 kX4_101 sm_J6_lowestOneBit_0f7a4 dX4_takesTwice_33 (c_J6_lob _ _ _) (by decide) rfl rfl (Nat.le_of_ble_eq_true rfl) (fun x5 μ5 hp5 => ?_)
      rw [hp5.1, hp5.2]
      refine v_ior (pc := 36) F dX4_takesTwice_36 ?_
      refine v_ireturn (pc := 37) F dX4_takesTwice_37 (rfl) ?_
      refine ⟨?_, rfl⟩
      unfold ttS
      first | (rw [if_pos h1, if_pos h2]; done) | (rw [if_pos h1, if_neg h2]; done) | (rw [if_neg h1, if_pos h2]; done) | (rw [if_neg h1, if_neg h2]; done)
  · skip
    refine v_iload_n (pc := 4) (i := 0) F dX4_takesTwice_4 rfl rfl ?_
    refine v_goto (pc := 5) (tgt := 9) F dX4_takesTwice_5 (by decide) ?_
    refine v_callSI (pc := 9) (As := [_]) (rest := []) F mJ6_lowestOneBit_0f7a4 kX4_101 sm_J6_lowestOneBit_0f7a4 dX4_takesTwice_9 (c_J6_lob _ _ _) (by decide) rfl rfl (Nat.le_of_ble_eq_true rfl) (fun x6 μ6 hp6 => ?_)
    rw [hp6.1, hp6.2]
    refine v_istore_n (pc := 12) (lo' := [some (.int _), some (.int _), some (.int _), _]) F dX4_takesTwice_12 rfl rfl (Nat.le_of_ble_eq_true rfl) rfl ?_
    refine v_iload_n (pc := 13) (i := 0) F dX4_takesTwice_13 rfl rfl ?_
    refine v_iload_n (pc := 14) (i := 2) F dX4_takesTwice_14 rfl rfl ?_
    refine v_iconst (pc := 15) (v := (-1)) F dX4_takesTwice_15 (by decide) ?_
    refine v_ixor (pc := 16) F dX4_takesTwice_16 ?_
    refine v_iand (pc := 17) F dX4_takesTwice_17 ?_
    refine v_istore_n (pc := 18) (lo' := [some (.int _), some (.int _), some (.int _), some (.int _)]) F dX4_takesTwice_18 rfl rfl (Nat.le_of_ble_eq_true rfl) rfl ?_
    refine v_iload_n (pc := 19) (i := 2) F dX4_takesTwice_19 rfl rfl ?_
    refine v_iload_n (pc := 20) (i := 3) F dX4_takesTwice_20 rfl rfl ?_
    refine v_if_eq (pc := 21) (tgt := 28) F dX4_takesTwice_21 (by decide) (fun h2 => ?_) (fun h2 => ?_)
    · skip
      refine v_iload_n (pc := 28) (i := 1) F dX4_takesTwice_28 rfl rfl ?_
      refine v_iload_n (pc := 29) (i := 2) F dX4_takesTwice_29 rfl rfl ?_
      refine v_iconst (pc := 30) (v := (-1)) F dX4_takesTwice_30 (by decide) ?_
      refine v_ixor (pc := 31) F dX4_takesTwice_31 ?_
      refine v_iand (pc := 32) F dX4_takesTwice_32 ?_
      refine v_callSI (pc := 33) (As := [_]) (rest := [_]) F mJ6_lowestOneBit_0f7a4 kX4_101 sm_J6_lowestOneBit_0f7a4 dX4_takesTwice_33 (c_J6_lob _ _ _) (by decide) rfl rfl (Nat.le_of_ble_eq_true rfl) (fun x8 μ8 hp8 => ?_)
      rw [hp8.1, hp8.2]
      refine v_ior (pc := 36) F dX4_takesTwice_36 ?_
      refine v_ireturn (pc := 37) F dX4_takesTwice_37 (rfl) ?_
      refine ⟨?_, rfl⟩
      unfold ttS
      first | (rw [if_pos h1, if_pos h2]; done) | (rw [if_pos h1, if_neg h2]; done) | (rw [if_neg h1, if_pos h2]; done) | (rw [if_neg h1, if_neg h2]; done)
    · skip
      refine v_iload_n (pc := 24) (i := 3) F dX4_takesTwice_24 rfl rfl ?_
      refine v_goto (pc := 25) (tgt := 33) F dX4_takesTwice_25 (by decide) ?_
      refine v_callSI (pc := 33) (As := [_]) (rest := [_]) F mJ6_lowestOneBit_0f7a4 kX4_101 sm_J6_lowestOneBit_0f7a4 dX4_takesTwice_33 (c_J6_lob _ _ _) (by decide) rfl rfl (Nat.le_of_ble_eq_true rfl) (fun x9 μ9 hp9 => ?_)
      rw [hp9.1, hp9.2]
      refine v_ior (pc := 36) F dX4_takesTwice_36 ?_
      refine v_ireturn (pc := 37) F dX4_takesTwice_37 (rfl) ?_
      refine ⟨?_, rfl⟩
      unfold ttS
      first | (rw [if_pos h1, if_pos h2]; done) | (rw [if_pos h1, if_neg h2]; done) | (rw [if_neg h1, if_pos h2]; done) | (rw [if_neg h1, if_neg h2]; done)

set_option maxRecDepth 100000 in
theorem c_X4_isOnly (b : Nat) (hb : j_ob ΛX b 4) (n : Nat) (w : Nat → Nat → Int32) (μ : j_M) (hS : SQ μ b w n) (pb th : Int32) : Ct yX4_isOnly cX4_isOnly 4 (some .boolean) 0 ΛX [.ref b, .int pb, .int th] μ (pI fun r μ2 => r = (b2i (ioB w pb th = true)) ∧ μ2 = μ) := by
  refine Ct.go (lo := [some (.ref b), some (.int pb), some (.int th), none]) (by decide) (Nat.le_of_ble_eq_true rfl) rfl rfl (fun X F => ?_)
  have F : Fx X cX4_isOnly RX4 0 (some .boolean) ΛX := F
  refine v_iconst (pc := 0) (v := nI 0) F dX4_isOnly_0 (by decide) ?_
  refine v_istore_n (pc := 1) (lo' := [some (.ref _), some (.int _), some (.int _), some (.int _)]) F dX4_isOnly_1 rfl rfl (Nat.le_of_ble_eq_true rfl) rfl ?_
  refine j_up 8 (fun k => (∀ j, j < k → ¬ (pwB w j &&& th) = pb) → V X _ 2 [some (.ref b), some (.int pb), some (.int th), some (.int (nI k))] [] μ) (fun k hk ih hI => ?_) 0 (Nat.zero_le _) (fun j hj => absurd hj (Nat.not_lt_zero _))
  refine v_iload_n (pc := 2) (i := 3) F dX4_isOnly_2 rfl rfl ?_
  refine v_bipush (pc := 3) (v := nI 8) F dX4_isOnly_3 (by decide) ?_
  refine v_icmp_ge (pc := 5) (tgt := 28) F dX4_isOnly_5 (by decide) (fun h5_1 => ?_) (fun h5_1 => ?_)
  · rw [nI_leI (by omega) (by omega)] at h5_1
    refine v_iconst (pc := 28) (v := nI 0) F dX4_isOnly_28 (by decide) ?_
    refine v_ireturn (pc := 29) F dX4_isOnly_29 (rfl) ?_
    refine ⟨b2i_n (fun z => ?_), rfl⟩
    obtain ⟨j, h1, h2⟩ := List.any_eq_true.mp z
    have h3 := List.mem_range.mp h1
    exact hI j (by omega) (by simpa using h2)
  · rw [nI_leI (by omega) (by omega)] at h5_1
    refine v_aload_n (pc := 8) (i := 0) F dX4_isOnly_8 rfl rfl ?_
    refine v_getR (pc := 9) (o := 2) F fX4_15 dX4_isOnly_9 rfl hb ?_
    refine v_topR (y := b + 2) rfl ?_
    refine v_iload_n (pc := 12) (i := 3) F dX4_isOnly_12 rfl rfl ?_
    refine v_ialdN (pc := 13) (k0 := k) F dX4_isOnly_13 (lx4_1 hb) (rfl) (by omega) (by decide) ?_
    refine v_topE (y := (pwB w k)) (hS.1.plw k (by omega)) ?_
    refine v_iload_n (pc := 14) (i := 2) F dX4_isOnly_14 rfl rfl ?_
    refine v_iand (pc := 15) F dX4_isOnly_15 ?_
    refine v_iload_n (pc := 16) (i := 1) F dX4_isOnly_16 rfl rfl ?_
    refine v_icmp_ne (pc := 17) (tgt := 22) F dX4_isOnly_17 (by decide) (fun hc => ?_) (fun hc => ?_)
    · skip
      refine v_iinc (pc := 22) (i := 3) (v := nI (k + 1)) (lo' := [some (.ref _), some (.int _), some (.int _), some (.int _)]) F dX4_isOnly_22 rfl (j_inc _) rfl rfl ?_
      refine v_goto (pc := 25) (tgt := 2) F dX4_isOnly_25 (by decide) ?_
      exact ih (by omega) (fun j hj => by rcases Nat.lt_succ_iff_lt_or_eq.mp hj with q | q; exact hI j q; rw [q]; exact hc)
    · skip
      refine v_iconst (pc := 20) (v := nI 1) F dX4_isOnly_20 (by decide) ?_
      refine v_ireturn (pc := 21) F dX4_isOnly_21 (rfl) ?_
      exact ⟨b2i_y (List.any_eq_true.mpr ⟨k, List.mem_range.mpr (by omega), by simpa using hc⟩), rfl⟩

set_option maxRecDepth 100000 in
theorem c_X4_placesWithMost (b : Nat) (hb : j_ob ΛX b 4) (n : Nat) (w : Nat → Nat → Int32) (μ : j_M) (hS : SQ μ b w n) (sb th : Int32) : Ct yX4_placesWithMost cX4_placesWithMost 6 (some .int) 1 ΛX [.ref b, .int sb, .int th] μ (pI fun r μ2 => r = (pmK w sb th 8) ∧ μ2 = μ) := by
  refine Ct.go (lo := [some (.ref b), some (.int sb), some (.int th), none, none, none]) (by decide) (Nat.le_of_ble_eq_true rfl) rfl rfl (fun X F => ?_)
  have F : Fx X cX4_placesWithMost RX4 1 (some .int) ΛX := F
  refine v_iconst (pc := 0) (v := nI 0) F dX4_placesWithMost_0 (by decide) ?_
  refine v_istore_n (pc := 1) (lo' := [some (.ref _), some (.int _), some (.int _), some (.int _), _, _]) F dX4_placesWithMost_1 rfl rfl (Nat.le_of_ble_eq_true rfl) rfl ?_
  refine v_iconst (pc := 2) (v := nI 0) F dX4_placesWithMost_2 (by decide) ?_
  refine v_istore (pc := 3) (lo' := [some (.ref _), some (.int _), some (.int _), some (.int _), some (.int _), _]) F dX4_placesWithMost_3 rfl (Nat.le_of_ble_eq_true rfl) rfl ?_
  refine j_up 8 (fun k => V X _ 5 [some (.ref b), some (.int sb), some (.int th), some (.int ((pmK w sb th k))), some (.int (nI k)), none] [] μ) (fun k hk ih => ?_) 0 (Nat.zero_le _)
  refine v_iload (pc := 5) (i := 4) F dX4_placesWithMost_5 rfl ?_
  refine v_bipush (pc := 7) (v := nI 8) F dX4_placesWithMost_7 (by decide) ?_
  refine v_icmp_ge (pc := 9) (tgt := 53) F dX4_placesWithMost_9 (by decide) (fun h9_1 => ?_) (fun h9_1 => ?_)
  · rw [nI_leI (by omega) (by omega)] at h9_1
    refine v_iload_n (pc := 53) (i := 3) F dX4_placesWithMost_53 rfl rfl ?_
    refine v_ireturn (pc := 54) F dX4_placesWithMost_54 (rfl) ?_
    have e : k = 8 := by omega
    subst e
    exact ⟨rfl, rfl⟩
  · rw [nI_leI (by omega) (by omega)] at h9_1
    refine v_aload_n (pc := 12) (i := 0) F dX4_placesWithMost_12 rfl rfl ?_
    refine v_getR (pc := 13) (o := 2) F fX4_15 dX4_placesWithMost_13 rfl hb ?_
    refine v_topR (y := b + 2) rfl ?_
    refine v_iload (pc := 16) (i := 4) F dX4_placesWithMost_16 rfl ?_
    refine v_ialdN (pc := 18) (k0 := k) F dX4_placesWithMost_18 (lx4_1 hb) (rfl) (by omega) (by decide) ?_
    refine v_topE (y := (pwB w k)) (hS.1.plw k (by omega)) ?_
    refine v_iload_n (pc := 19) (i := 2) F dX4_placesWithMost_19 rfl rfl ?_
    refine v_iand (pc := 20) F dX4_placesWithMost_20 ?_
    refine v_istore (pc := 21) (lo' := [some (.ref _), some (.int _), some (.int _), some (.int _), some (.int _), some (.int _)]) F dX4_placesWithMost_21 rfl (Nat.le_of_ble_eq_true rfl) rfl ?_
    refine v_iload_n (pc := 23) (i := 1) F dX4_placesWithMost_23 rfl rfl ?_
    refine v_iload (pc := 24) (i := 4) F dX4_placesWithMost_24 rfl ?_
    refine v_ishr (pc := 26) F dX4_placesWithMost_26 ?_
    refine v_iconst (pc := 27) (v := nI 1) F dX4_placesWithMost_27 (by decide) ?_
    refine v_iand (pc := 28) F dX4_placesWithMost_28 ?_
    refine v_if_eq (pc := 29) (tgt := 47) F dX4_placesWithMost_29 (by decide) (fun ht => ?_) (fun ht => ?_)
    · rw [tb_if (by omega)] at ht
      refine v_iinc (pc := 47) (i := 4) (v := nI (k + 1)) (lo' := [some (.ref _), some (.int _), some (.int _), some (.int _), some (.int _), some (.int _)]) F dX4_placesWithMost_47 rfl (j_inc _) rfl rfl ?_
      refine v_goto (pc := 50) (tgt := 5) F dX4_placesWithMost_50 (by decide) ?_
      refine v_drop (i := 5) (lo' := [some (.ref _), some (.int _), some (.int _), some (.int _), some (.int _), _]) rfl ?_
      have q := ih (by omega)
      first | (rw [pmK_t ht hq] at q; exact q) | (rw [pmK_f (fun z => ht z.1)] at q; exact q) | (rw [pmK_f (fun z => hq z.2)] at q; exact q)
    · rw [tb_if (by omega)] at ht
      rw [Classical.not_not] at ht
      refine v_iload (pc := 32) (i := 5) F dX4_placesWithMost_32 rfl ?_
      refine v_callSI (pc := 34) (As := [_]) (rest := []) F mJ6_bitCount_0f7a4 kX4_104 sm_J6_bitCount_0f7a4 dX4_placesWithMost_34 (c_J6_bc _ _ _) (by decide) rfl rfl (Nat.le_of_ble_eq_true rfl) (fun x3 μ3 hp3 => ?_)
      rw [hp3.1, hp3.2]
      refine v_iload_n (pc := 37) (i := 3) F dX4_placesWithMost_37 rfl rfl ?_
      refine v_callSI (pc := 38) (As := [_]) (rest := [_]) F mJ6_bitCount_0f7a4 kX4_104 sm_J6_bitCount_0f7a4 dX4_placesWithMost_38 (c_J6_bc _ _ _) (by decide) rfl rfl (Nat.le_of_ble_eq_true rfl) (fun x4 μ4 hp4 => ?_)
      rw [hp4.1, hp4.2]
      refine v_icmp_le (pc := 41) (tgt := 47) F dX4_placesWithMost_41 (by decide) (fun hq0 => ?_) (fun hq0 => ?_)
      · skip
        have hq : ¬ jbc (pmK w sb th k) < jbc (pwB w k &&& th) := Int32.not_lt.mpr hq0
        refine v_iinc (pc := 47) (i := 4) (v := nI (k + 1)) (lo' := [some (.ref _), some (.int _), some (.int _), some (.int _), some (.int _), some (.int _)]) F dX4_placesWithMost_47 rfl (j_inc _) rfl rfl ?_
        refine v_goto (pc := 50) (tgt := 5) F dX4_placesWithMost_50 (by decide) ?_
        refine v_drop (i := 5) (lo' := [some (.ref _), some (.int _), some (.int _), some (.int _), some (.int _), _]) rfl ?_
        have q := ih (by omega)
        first | (rw [pmK_t ht hq] at q; exact q) | (rw [pmK_f (fun z => ht z.1)] at q; exact q) | (rw [pmK_f (fun z => hq z.2)] at q; exact q)
      · skip
        have hq : jbc (pmK w sb th k) < jbc (pwB w k &&& th) := Int32.not_le.mp hq0
        refine v_iload (pc := 44) (i := 5) F dX4_placesWithMost_44 rfl ?_
        refine v_istore_n (pc := 46) (lo' := [some (.ref _), some (.int _), some (.int _), some (.int _), some (.int _), some (.int _)]) F dX4_placesWithMost_46 rfl rfl (Nat.le_of_ble_eq_true rfl) rfl ?_
        refine v_iinc (pc := 47) (i := 4) (v := nI (k + 1)) (lo' := [some (.ref _), some (.int _), some (.int _), some (.int _), some (.int _), some (.int _)]) F dX4_placesWithMost_47 rfl (j_inc _) rfl rfl ?_
        refine v_goto (pc := 50) (tgt := 5) F dX4_placesWithMost_50 (by decide) ?_
        refine v_drop (i := 5) (lo' := [some (.ref _), some (.int _), some (.int _), some (.int _), some (.int _), _]) rfl ?_
        have q := ih (by omega)
        first | (rw [pmK_t ht hq] at q; exact q) | (rw [pmK_f (fun z => ht z.1)] at q; exact q) | (rw [pmK_f (fun z => hq z.2)] at q; exact q)

theorem WI.k {w : Nat → Nat → Int32} {n : Nat} (h : WI w n) {l : Nat} (hl : l < n) : ∃ k, k < 6 ∧ w 2 l = nI k := (h.2.2.2 l hl).1
theorem WI.a {w : Nat → Nat → Int32} {n : Nat} (h : WI w n) {l : Nat} (hl : l < n) : ∃ a, a < 8 ∧ w 3 l = nI a := (h.2.2.2 l hl).2.1
theorem WI.sh {w : Nat → Nat → Int32} {n : Nat} (h : WI w n) {l : Nat} (hl : l < n) : TH (w 7 l) := (h.2.2.2 l hl).2.2
theorem WI.t {w : Nat → Nat → Int32} {n : Nat} (h : WI w n) : ∀ p, p < 12 → TH (w 1 p) := h.2.2.1
theorem j_sw15 {x : Int32} (h1 : ¬ x = 1) (h2 : ¬ x = 2) (h3 : ¬ x = 3) (h4 : ¬ x = 4) (h5 : ¬ x = 5) : x.toInt < 1 ∨ 5 < x.toInt := by
  have q := j_sw25 h2 h3 h4 h5
  have a := tI h1
  have e1 : (1 : Int32).toInt = 1 := by decide
  omega
theorem lo_y {u : Nat → Int32} {a lk : Int32} (h : ¬ fP (fun p => u p == a) = none) : jlob (bK (fun p => u p == a) 12) = bl (lookO a lk u).toList := by
  rw [lob_bK]
  unfold lookO
  rcases e : fP (fun p => u p == a) with _ | p
  · exact absurd e h
  · rfl
theorem lo_n {u : Nat → Int32} {a lk : Int32} (h : fP (fun p => u p == a) = none) : jlob (bK (fun p => likB a lk (u p)) 12) = bl (lookO a lk u).toList := by
  rw [lob_bK]
  unfold lookO
  rw [h]
theorem gv_y {w : Nat → Nat → Int32} {u : Nat → Int32} {a : Nat} {k lk : Int32} (hk : k = 4) (h : UU w u) (ht : ∀ p, p < 12 → TH (w 1 p)) (hc : ioB w (jhob (bK (fun p => likB (nI a) lk (u p)) 12)) (lfB u) = true) : (0 : Int32) = bl (tk k (nI a) lk u) := by
  rw [tk_4 hk]
  rw [hob_bK] at hc
  rcases e : lP (fun p => likB (nI a) lk (u p)) with _ | p
  · rfl
  · rw [e] at hc
    have h1 := lP_lt p e
    have h2 : ¬ u p = -1 := likB_ne (lK_sp _ _ e)
    have h3 : ¬ 1 < cP (fun q => u q == u p) := (io_eq h ht h1 h2).mp hc
    simp only []
    rw [if_neg h3]
    rfl
theorem gv_n {w : Nat → Nat → Int32} {u : Nat → Int32} {a : Nat} {k lk : Int32} (hk : k = 4) (h : UU w u) (ht : ∀ p, p < 12 → TH (w 1 p)) (hc : ¬ ioB w (jhob (bK (fun p => likB (nI a) lk (u p)) 12)) (lfB u) = true) : jhob (bK (fun p => likB (nI a) lk (u p)) 12) = bl (tk k (nI a) lk u) := by
  rw [tk_4 hk]
  rw [hob_bK] at hc ⊢
  rcases e : lP (fun p => likB (nI a) lk (u p)) with _ | p
  · rfl
  · rw [e] at hc
    have h1 := lP_lt p e
    have h2 : ¬ u p = -1 := likB_ne (lK_sp _ _ e)
    have h3 : 1 < cP (fun q => u q == u p) := Classical.not_not.mp (fun z => hc ((io_eq h ht h1 h2).mpr z))
    simp only []
    rw [if_pos h3]
    rfl

set_option maxRecDepth 100000 in
theorem c_X4_takes (b : Nat) (hb : j_ob ΛX b 4) (n : Nat) (w : Nat → Nat → Int32) (μ : j_M) (hS : SQ μ b w n) (l : Nat) (hl3 : j_ob ΛX (b + 5 + 2 * l) 3) (hW : WI w n) (hl : l < n) (u : Nat → Int32) (hu : UU w u) : Ct yX4_takes cX4_takes 5 (some .int) 3 ΛX [.ref b, .ref (b + 5 + 2 * l), .int ((lfB u))] μ (pI fun r μ2 => r = (bl (tk (w 2 l) (w 3 l) (w 5 l) u)) ∧ μ2 = μ) := by
  refine Ct.go (lo := [some (.ref b), some (.ref (b + 5 + 2 * l)), some (.int ((lfB u))), none, none]) (by decide) (Nat.le_of_ble_eq_true rfl) rfl rfl (fun X F => ?_)
  have F : Fx X cX4_takes RX4 3 (some .int) ΛX := F
  obtain ⟨a, ha8, haa⟩ := hW.a hl
  have hS1 := hS.2
  have ha1 : ¬ nI a = -1 := j_m1 (by omega)
  refine v_aload_n (pc := 0) (i := 0) F dX4_takes_0 rfl rfl ?_
  refine v_getR (pc := 1) (o := 2) F fX4_15 dX4_takes_1 rfl hb ?_
  refine v_topR (y := b + 2) rfl ?_
  refine v_aload_n (pc := 4) (i := 1) F dX4_takes_4 rfl rfl ?_
  refine v_getI (pc := 5) F fX4_71 dX4_takes_5 rfl hl3 ?_
  refine v_topE (y := nI a) ((hS.1.lk l hl).a.trans haa) ?_
  refine v_ialdN (pc := 8) (k0 := a) F dX4_takes_8 (lx4_1 hb) (rfl) (by omega) (by decide) ?_
  refine v_topE (y := (pwB w a)) (hS.1.plw a (by omega)) ?_
  refine v_iload_n (pc := 9) (i := 2) F dX4_takes_9 rfl rfl ?_
  refine v_iand (pc := 10) F dX4_takes_10 ?_
  refine v_topE (y := (bK (fun p => u p == nI a) 12)) (pw_there ha8 hu) ?_
  refine v_istore_n (pc := 11) (lo' := [some (.ref _), some (.ref _), some (.int _), some (.int _), _]) F dX4_takes_11 rfl rfl (Nat.le_of_ble_eq_true rfl) rfl ?_
  refine v_aload_n (pc := 12) (i := 0) F dX4_takes_12 rfl rfl ?_
  refine v_aload_n (pc := 13) (i := 1) F dX4_takes_13 rfl rfl ?_
  refine v_callVI (pc := 14) (As := []) (rest := [_]) (c := 3) F mX3_wanted kX4_74 im_X3_wanted se_X3_wanted dX4_takes_14 rfl rfl (by decide) (c_X3_wanted _ hl3 l w _ ((hS).1.lk l (by omega))) (by decide) rfl rfl (Nat.le_of_ble_eq_true rfl) hl3 (fun x1 μ1 hp1 => ?_)
  rw [hp1.1, hp1.2]
  refine v_callVI (pc := 17) (As := [_]) (rest := []) (c := 4) F mX4_placesWithAny kX4_78 im_X4_placesWithAny se_X4_placesWithAny dX4_takes_17 rfl rfl (by decide) (c_X4_placesWithAny b hb n w _ (hS) _) (by decide) rfl rfl (Nat.le_of_ble_eq_true rfl) hb (fun x2 μ2 hp2 => ?_)
  rw [hp2.1, hp2.2]
  refine v_iload_n (pc := 20) (i := 2) F dX4_takes_20 rfl rfl ?_
  refine v_iand (pc := 21) F dX4_takes_21 ?_
  refine v_topE (y := (bK (fun p => likB (nI a) (w 5 l) (u p)) 12)) (by rw [haa]; exact pa_there ha8 hu hW.t) ?_
  refine v_istore (pc := 22) (lo' := [some (.ref _), some (.ref _), some (.int _), some (.int _), some (.int _)]) F dX4_takes_22 rfl (Nat.le_of_ble_eq_true rfl) rfl ?_
  refine v_aload_n (pc := 24) (i := 1) F dX4_takes_24 rfl rfl ?_
  refine v_getI (pc := 25) F fX4_82 dX4_takes_25 rfl hl3 ?_
  refine v_topE (y := (w 2 l)) ((hS.1.lk l (by omega)).k) ?_
  by_cases hs1 : (w 2 l) = 1
  · refine v_tin (pc := 28) (tgt := 64) F dX4_takes_28 (by rw [hs1]; decide) (by rw [hs1]; decide) (by rw [hs1]; rfl) (by decide) ?_
    refine v_iload_n (pc := 64) (i := 3) F dX4_takes_64 rfl rfl ?_
    refine v_iload (pc := 65) (i := 4) F dX4_takes_65 rfl ?_
    refine v_callSI (pc := 67) (As := [_, _]) (rest := []) F mX4_takesTwice kX4_85 sm_X4_takesTwice dX4_takes_67 (c_X4_takesTwice _ _ _) (by decide) rfl rfl (Nat.le_of_ble_eq_true rfl) (fun x4 μ4 hp4 => ?_)
    rw [hp4.1, hp4.2]
    refine v_ireturn (pc := 70) F dX4_takes_70 (rfl) ?_
    rw [tk_1 hs1, haa]
    exact ⟨tt_eq ha1, rfl⟩
  by_cases hs2 : (w 2 l) = 2
  · refine v_tin (pc := 28) (tgt := 86) F dX4_takes_28 (by rw [hs2]; decide) (by rw [hs2]; decide) (by rw [hs2]; rfl) (by decide) ?_
    refine v_iload (pc := 86) (i := 4) F dX4_takes_86 rfl ?_
    refine v_callSI (pc := 88) (As := [_]) (rest := []) F mJ6_highestOneBit_0f7a4 kX4_89 sm_J6_highestOneBit_0f7a4 dX4_takes_88 (c_J6_hob _ _ _) (by decide) rfl rfl (Nat.le_of_ble_eq_true rfl) (fun x6 μ6 hp6 => ?_)
    rw [hp6.1, hp6.2]
    refine v_ireturn (pc := 91) F dX4_takes_91 (rfl) ?_
    rw [tk_2 hs2, haa]
    exact ⟨hob_bK, rfl⟩
  by_cases hs3 : (w 2 l) = 3
  · refine v_tin (pc := 28) (tgt := 71) F dX4_takes_28 (by rw [hs3]; decide) (by rw [hs3]; decide) (by rw [hs3]; rfl) (by decide) ?_
    refine v_iload_n (pc := 71) (i := 3) F dX4_takes_71 rfl rfl ?_
    refine v_if_eq (pc := 72) (tgt := 79) F dX4_takes_72 (by decide) (fun hg => ?_) (fun hg => ?_)
    · rw [bK_0] at hg
      refine v_iload_n (pc := 79) (i := 3) F dX4_takes_79 rfl rfl ?_
      refine v_iload (pc := 80) (i := 4) F dX4_takes_80 rfl ?_
      refine v_callSI (pc := 82) (As := [_, _]) (rest := []) F mX4_takesTwice kX4_85 sm_X4_takesTwice dX4_takes_82 (c_X4_takesTwice _ _ _) (by decide) rfl rfl (Nat.le_of_ble_eq_true rfl) (fun x9 μ9 hp9 => ?_)
      rw [hp9.1, hp9.2]
      refine v_ireturn (pc := 85) F dX4_takes_85 (rfl) ?_
      rw [haa]
      refine ⟨?_, rfl⟩
      rw [tk_3n hs3 hg]
      exact tt_eq ha1
    · rw [bK_0] at hg
      refine v_iload_n (pc := 75) (i := 3) F dX4_takes_75 rfl rfl ?_
      refine v_goto (pc := 76) (tgt := 85) F dX4_takes_76 (by decide) ?_
      refine v_ireturn (pc := 85) F dX4_takes_85 (rfl) ?_
      rw [haa]
      refine ⟨?_, rfl⟩
      rw [tk_3s hs3 hg]
      exact bl_filter.symm
  by_cases hs4 : (w 2 l) = 4
  · refine v_tin (pc := 28) (tgt := 92) F dX4_takes_28 (by rw [hs4]; decide) (by rw [hs4]; decide) (by rw [hs4]; rfl) (by decide) ?_
    refine v_aload_n (pc := 92) (i := 0) F dX4_takes_92 rfl rfl ?_
    refine v_iload (pc := 93) (i := 4) F dX4_takes_93 rfl ?_
    refine v_callSI (pc := 95) (As := [_]) (rest := [_]) F mJ6_highestOneBit_0f7a4 kX4_89 sm_J6_highestOneBit_0f7a4 dX4_takes_95 (c_J6_hob _ _ _) (by decide) rfl rfl (Nat.le_of_ble_eq_true rfl) (fun x11 μ11 hp11 => ?_)
    rw [hp11.1, hp11.2]
    refine v_iload_n (pc := 98) (i := 2) F dX4_takes_98 rfl rfl ?_
    refine v_callVI (pc := 99) (As := [_, _]) (rest := []) (c := 4) F mX4_isOnly kX4_94 im_X4_isOnly se_X4_isOnly dX4_takes_99 rfl rfl (by decide) (c_X4_isOnly b hb n w _ (hS) _ _) (by decide) rfl rfl (Nat.le_of_ble_eq_true rfl) hb (fun x12 μ12 hp12 => ?_)
    rw [hp12.1, hp12.2]
    refine v_if_eq (pc := 102) (tgt := 109) F dX4_takes_102 (by decide) (fun hio => ?_) (fun hio => ?_)
    · rw [b2i_0] at hio
      refine v_iload (pc := 109) (i := 4) F dX4_takes_109 rfl ?_
      refine v_callSI (pc := 111) (As := [_]) (rest := []) F mJ6_highestOneBit_0f7a4 kX4_89 sm_J6_highestOneBit_0f7a4 dX4_takes_111 (c_J6_hob _ _ _) (by decide) rfl rfl (Nat.le_of_ble_eq_true rfl) (fun x14 μ14 hp14 => ?_)
      rw [hp14.1, hp14.2]
      refine v_ireturn (pc := 114) F dX4_takes_114 (rfl) ?_
      rw [haa]
      exact ⟨by first | exact gv_y hs4 hu hW.t hio | exact gv_n hs4 hu hW.t hio, rfl⟩
    · rw [b2i_0] at hio
      rw [Classical.not_not] at hio
      refine v_iconst (pc := 105) (v := nI 0) F dX4_takes_105 (by decide) ?_
      refine v_goto (pc := 106) (tgt := 114) F dX4_takes_106 (by decide) ?_
      refine v_ireturn (pc := 114) F dX4_takes_114 (rfl) ?_
      rw [haa]
      exact ⟨by first | exact gv_y hs4 hu hW.t hio | exact gv_n hs4 hu hW.t hio, rfl⟩
  by_cases hs5 : (w 2 l) = 5
  · refine v_tin (pc := 28) (tgt := 115) F dX4_takes_28 (by rw [hs5]; decide) (by rw [hs5]; decide) (by rw [hs5]; rfl) (by decide) ?_
    refine v_aload_n (pc := 115) (i := 0) F dX4_takes_115 rfl rfl ?_
    refine v_aload_n (pc := 116) (i := 1) F dX4_takes_116 rfl rfl ?_
    refine v_callVI (pc := 117) (As := []) (rest := [_]) (c := 3) F mX3_wanted kX4_74 im_X3_wanted se_X3_wanted dX4_takes_117 rfl rfl (by decide) (c_X3_wanted _ hl3 l w _ ((hS).1.lk l (by omega))) (by decide) rfl rfl (Nat.le_of_ble_eq_true rfl) hl3 (fun x16 μ16 hp16 => ?_)
    rw [hp16.1, hp16.2]
    refine v_iload_n (pc := 120) (i := 2) F dX4_takes_120 rfl rfl ?_
    refine v_callVI (pc := 121) (As := [_, _]) (rest := []) (c := 4) F mX4_placesWithMost kX4_98 im_X4_placesWithMost se_X4_placesWithMost dX4_takes_121 rfl rfl (by decide) (c_X4_placesWithMost b hb n w _ (hS) _ _) (by decide) rfl rfl (Nat.le_of_ble_eq_true rfl) hb (fun x17 μ17 hp17 => ?_)
    rw [hp17.1, hp17.2]
    refine v_callSI (pc := 124) (As := [_]) (rest := []) F mJ6_lowestOneBit_0f7a4 kX4_101 sm_J6_lowestOneBit_0f7a4 dX4_takes_124 (c_J6_lob _ _ _) (by decide) rfl rfl (Nat.le_of_ble_eq_true rfl) (fun x18 μ18 hp18 => ?_)
    rw [hp18.1, hp18.2]
    refine v_ireturn (pc := 127) F dX4_takes_127 (rfl) ?_
    rw [tk_5 hs5, haa]
    exact ⟨(pm_eq ha8 hu 8 (Nat.le_refl _)).2, rfl⟩
  refine v_tout (pc := 28) (tgt := 128) F dX4_takes_28 (j_sw15 hs1 hs2 hs3 hs4 hs5) (by decide) ?_
  refine v_iload_n (pc := 128) (i := 3) F dX4_takes_128 rfl rfl ?_
  refine v_if_eq (pc := 129) (tgt := 136) F dX4_takes_129 (by decide) (fun hg => ?_) (fun hg => ?_)
  · rw [bK_0] at hg
    refine v_iload (pc := 136) (i := 4) F dX4_takes_136 rfl ?_
    refine v_callSI (pc := 138) (As := [_]) (rest := []) F mJ6_lowestOneBit_0f7a4 kX4_101 sm_J6_lowestOneBit_0f7a4 dX4_takes_138 (c_J6_lob _ _ _) (by decide) rfl rfl (Nat.le_of_ble_eq_true rfl) (fun x20 μ20 hp20 => ?_)
    rw [hp20.1, hp20.2]
    refine v_ireturn (pc := 141) F dX4_takes_141 (rfl) ?_
    rw [tk_0 hs2 hs3 hs4 hs5 hs1, haa]
    exact ⟨by first | exact lo_y hg | exact lo_n hg, rfl⟩
  · rw [bK_0] at hg
    refine v_iload_n (pc := 132) (i := 3) F dX4_takes_132 rfl rfl ?_
    refine v_goto (pc := 133) (tgt := 138) F dX4_takes_133 (by decide) ?_
    refine v_callSI (pc := 138) (As := [_]) (rest := []) F mJ6_lowestOneBit_0f7a4 kX4_101 sm_J6_lowestOneBit_0f7a4 dX4_takes_138 (c_J6_lob _ _ _) (by decide) rfl rfl (Nat.le_of_ble_eq_true rfl) (fun x21 μ21 hp21 => ?_)
    rw [hp21.1, hp21.2]
    refine v_ireturn (pc := 141) F dX4_takes_141 (rfl) ?_
    rw [tk_0 hs2 hs3 hs4 hs5 hs1, haa]
    exact ⟨by first | exact lo_y hg | exact lo_n hg, rfl⟩

set_option maxRecDepth 100000 in
theorem c_X4_firstTaken (b : Nat) (hb : j_ob ΛX b 4) (n : Nat) (w : Nat → Nat → Int32) (μ : j_M) (hS : SQ μ b w n) (l : Nat) (hl3 : j_ob ΛX (b + 5 + 2 * l) 3) (hW : WI w n) (hl : l < n) (u : Nat → Int32) (hu : UU w u) (T : List Nat) (hT : T = tk (w 2 l) (w 3 l) (w 5 l) u) : Ct yX4_firstTaken cX4_firstTaken 5 (some .int) 2 ΛX [.ref b, .ref (b + 5 + 2 * l), .int ((bl T))] μ (pI fun r μ2 => r = (o2i T.head?) ∧ μ2 = μ) := by
  refine Ct.go (lo := [some (.ref b), some (.ref (b + 5 + 2 * l)), some (.int ((bl T))), none, none]) (by decide) (Nat.le_of_ble_eq_true rfl) rfl rfl (fun X F => ?_)
  have F : Fx X cX4_firstTaken RX4 2 (some .int) ΛX := F
  obtain ⟨a, ha8, haa⟩ := hW.a hl
  have hS1 := hS.2
  have hft : ftS (pwB w a &&& bl T) (bl T) = o2i T.head? := by rw [hT, haa]; exact ft_tk ha8 hu
  refine v_aload_n (pc := 0) (i := 0) F dX4_firstTaken_0 rfl rfl ?_
  refine v_getR (pc := 1) (o := 2) F fX4_15 dX4_firstTaken_1 rfl hb ?_
  refine v_topR (y := b + 2) rfl ?_
  refine v_aload_n (pc := 4) (i := 1) F dX4_firstTaken_4 rfl rfl ?_
  refine v_getI (pc := 5) F fX4_71 dX4_firstTaken_5 rfl hl3 ?_
  refine v_topE (y := nI a) ((hS.1.lk l hl).a.trans haa) ?_
  refine v_ialdN (pc := 8) (k0 := a) F dX4_firstTaken_8 (lx4_1 hb) (rfl) (by omega) (by decide) ?_
  refine v_topE (y := (pwB w a)) (hS.1.plw a (by omega)) ?_
  refine v_iload_n (pc := 9) (i := 2) F dX4_firstTaken_9 rfl rfl ?_
  refine v_iand (pc := 10) F dX4_firstTaken_10 ?_
  refine v_istore_n (pc := 11) (lo' := [some (.ref _), some (.ref _), some (.int _), some (.int _), _]) F dX4_firstTaken_11 rfl rfl (Nat.le_of_ble_eq_true rfl) rfl ?_
  refine v_iload_n (pc := 12) (i := 3) F dX4_firstTaken_12 rfl rfl ?_
  refine v_if_eq (pc := 13) (tgt := 20) F dX4_firstTaken_13 (by decide) (fun h1 => ?_) (fun h1 => ?_)
  · skip
    refine v_iload_n (pc := 20) (i := 2) F dX4_firstTaken_20 rfl rfl ?_
    refine v_callSI (pc := 21) (As := [_]) (rest := []) F mJ6_lowestOneBit_0f7a4 kX4_101 sm_J6_lowestOneBit_0f7a4 dX4_firstTaken_21 (c_J6_lob _ _ _) (by decide) rfl rfl (Nat.le_of_ble_eq_true rfl) (fun x2 μ2 hp2 => ?_)
    rw [hp2.1, hp2.2]
    refine v_istore (pc := 24) (lo' := [some (.ref _), some (.ref _), some (.int _), some (.int _), some (.int _)]) F dX4_firstTaken_24 rfl (Nat.le_of_ble_eq_true rfl) rfl ?_
    refine v_iload (pc := 26) (i := 4) F dX4_firstTaken_26 rfl ?_
    refine v_if_ne (pc := 28) (tgt := 35) F dX4_firstTaken_28 (by decide) (fun h2 => ?_) (fun h2 => ?_)
    · skip
      refine v_iload (pc := 35) (i := 4) F dX4_firstTaken_35 rfl ?_
      refine v_callSI (pc := 37) (As := [_]) (rest := []) F mJ6_numberOfTrailingZeros_0f7a4 kX4_107 sm_J6_numberOfTrailingZeros_0f7a4 dX4_firstTaken_37 (c_J6_ntz _ _ _) (by decide) rfl rfl (Nat.le_of_ble_eq_true rfl) (fun x4 μ4 hp4 => ?_)
      rw [hp4.1, hp4.2]
      refine v_ireturn (pc := 40) F dX4_firstTaken_40 (rfl) ?_
      refine ⟨?_, rfl⟩
      rw [← hft]
      unfold ftS
      first | (rw [if_pos h1, if_pos h2]; done) | (rw [if_pos h1, if_neg h2]; done) | (rw [if_neg h1, if_pos h2]; done) | (rw [if_neg h1, if_neg h2]; done)
    · skip
      refine v_iconst (pc := 31) (v := (-1)) F dX4_firstTaken_31 (by decide) ?_
      refine v_goto (pc := 32) (tgt := 40) F dX4_firstTaken_32 (by decide) ?_
      refine v_ireturn (pc := 40) F dX4_firstTaken_40 (rfl) ?_
      refine ⟨?_, rfl⟩
      rw [← hft]
      unfold ftS
      first | (rw [if_pos h1, if_pos h2]; done) | (rw [if_pos h1, if_neg h2]; done) | (rw [if_neg h1, if_pos h2]; done) | (rw [if_neg h1, if_neg h2]; done)
  · skip
    refine v_iload_n (pc := 16) (i := 3) F dX4_firstTaken_16 rfl rfl ?_
    refine v_goto (pc := 17) (tgt := 21) F dX4_firstTaken_17 (by decide) ?_
    refine v_callSI (pc := 21) (As := [_]) (rest := []) F mJ6_lowestOneBit_0f7a4 kX4_101 sm_J6_lowestOneBit_0f7a4 dX4_firstTaken_21 (c_J6_lob _ _ _) (by decide) rfl rfl (Nat.le_of_ble_eq_true rfl) (fun x5 μ5 hp5 => ?_)
    rw [hp5.1, hp5.2]
    refine v_istore (pc := 24) (lo' := [some (.ref _), some (.ref _), some (.int _), some (.int _), some (.int _)]) F dX4_firstTaken_24 rfl (Nat.le_of_ble_eq_true rfl) rfl ?_
    refine v_iload (pc := 26) (i := 4) F dX4_firstTaken_26 rfl ?_
    refine v_if_ne (pc := 28) (tgt := 35) F dX4_firstTaken_28 (by decide) (fun h2 => ?_) (fun h2 => ?_)
    · skip
      refine v_iload (pc := 35) (i := 4) F dX4_firstTaken_35 rfl ?_
      refine v_callSI (pc := 37) (As := [_]) (rest := []) F mJ6_numberOfTrailingZeros_0f7a4 kX4_107 sm_J6_numberOfTrailingZeros_0f7a4 dX4_firstTaken_37 (c_J6_ntz _ _ _) (by decide) rfl rfl (Nat.le_of_ble_eq_true rfl) (fun x7 μ7 hp7 => ?_)
      rw [hp7.1, hp7.2]
      refine v_ireturn (pc := 40) F dX4_firstTaken_40 (rfl) ?_
      refine ⟨?_, rfl⟩
      rw [← hft]
      unfold ftS
      first | (rw [if_pos h1, if_pos h2]; done) | (rw [if_pos h1, if_neg h2]; done) | (rw [if_neg h1, if_pos h2]; done) | (rw [if_neg h1, if_neg h2]; done)
    · skip
      refine v_iconst (pc := 31) (v := (-1)) F dX4_firstTaken_31 (by decide) ?_
      refine v_goto (pc := 32) (tgt := 40) F dX4_firstTaken_32 (by decide) ?_
      refine v_ireturn (pc := 40) F dX4_firstTaken_40 (rfl) ?_
      refine ⟨?_, rfl⟩
      rw [← hft]
      unfold ftS
      first | (rw [if_pos h1, if_pos h2]; done) | (rw [if_pos h1, if_neg h2]; done) | (rw [if_neg h1, if_pos h2]; done) | (rw [if_neg h1, if_neg h2]; done)
