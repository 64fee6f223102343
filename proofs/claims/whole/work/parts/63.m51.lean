/-! the class: carried out -/
theorem SC.has {μ : j_M} {b n l s : Nat} {w : Nat → Nat → Int32} {v : Int32} (h : SC μ b w n) (hn : n ≤ 8) (hl : l < n) (hs : s < 8) : SC (j_pI μ (b + 5 + 2 * l + 1) s v) b (fun c i => if c = 8 ∧ i = 8 * l + s then v else w c i) n := by
  have e : ∀ c i, ¬ (c = b + 5 + 2 * l + 1 ∧ i = s) → (j_pI μ (b + 5 + 2 * l + 1) s v).1 c i = μ.1 c i := fun c i q => j_pI_off q
  have f : ∀ c i, ¬ (c = 8 ∧ i = 8 * l + s) → (fun c i => if c = 8 ∧ i = 8 * l + s then v else w c i) c i = w c i := fun c i q => if_neg q
  have ft : (fun c i => if c = 8 ∧ i = 8 * l + s then v else w c i) 8 (8 * l + s) = v := if_pos ⟨rfl, rfl⟩
  generalize (fun c i => if c = 8 ∧ i = 8 * l + s then v else w c i) = w' at f ft ⊢
  refine ⟨fun p hp => (e _ _ (by omega)).trans ((h.srt p hp).trans (f _ _ (by omega)).symm), fun i hi => (e _ _ (by omega)).trans ((h.plw i hi).trans (pwB_congr (fun p _ => f _ _ (by omega)) i).symm), fun i hi => (e _ _ (by omega)).trans ((h.ord i hi).trans (by unfold OA; rw [show w' 4 = w 4 from funext fun i => f _ _ (by omega)])), fun i hi => ?_, (e _ _ (by omega)).trans (h.fil.trans (lfB_congr (fun p _ => f _ _ (by omega))).symm), (e _ _ (by omega)).trans h.cnt, (e _ _ (by omega)).trans (h.evs.trans (f _ _ (by omega)).symm), (e _ _ (by omega)).trans (h.sed.trans (f _ _ (by omega)).symm)⟩
  by_cases hil : i = l
  · subst hil
    obtain ⟨a1, a2, a3, a4, a5, a6, a7⟩ := h.lk i hi
    refine ⟨(e _ _ (by omega)).trans (a1.trans (f _ _ (by omega)).symm), (e _ _ (by omega)).trans (a2.trans (f _ _ (by omega)).symm), (e _ _ (by omega)).trans (a3.trans (f _ _ (by omega)).symm), (e _ _ (by omega)).trans (a4.trans (f _ _ (by omega)).symm), (e _ _ (by omega)).trans (a5.trans (f _ _ (by omega)).symm), (e _ _ (by omega)).trans (a6.trans (f _ _ (by omega)).symm), fun y hy => ?_⟩
    by_cases q : y = s
    · subst q; rw [j_pI_at, ft]
    · rw [e _ _ (by omega), f _ _ (by omega)]; exact a7 y hy
  · exact ((h.lk i hi).of (m := j_pI μ (b + 5 + 2 * l + 1) s v) (fun c y h1 h2 => e _ _ (by omega))).w (fun c h1 h2 => f _ _ (by omega)) (fun y hy => f _ _ (by omega))
theorem sw1_eq {m : j_M} {l s0 s1 : Nat} (h7 : m.1 7 l = nI s0) (h0 : s0 < 8) (h1 : s1 < 8) : (sw1 m l (nI s1)).1 = (j_pI (j_pI (j_pI m 8 (8 * l + s0) (jmax (nI 0) (m.1 8 (8 * l + s0) - nI 1))) 8 (8 * l + s1) (jmin (nI 99) ((j_pI m 8 (8 * l + s0) (jmax (nI 0) (m.1 8 (8 * l + s0) - nI 1))).1 8 (8 * l + s1) + nI 1))) 7 l (nI s1)).1 := by
  unfold sw1
  rw [h7, ix_nI (by omega), ix_nI (by omega)]
  funext c i
  by_cases e1 : c = 7 ∧ i = l
  · obtain ⟨rfl, rfl⟩ := e1
    rw [j_pI_off (by omega), j_pI_at, j_pI_at]
  · by_cases e2 : c = 8 ∧ i = 8 * l + s1
    · obtain ⟨rfl, rfl⟩ := e2
      rw [j_pI_at]
      refine Eq.trans ?_ ((j_pI_off (by omega)).trans j_pI_at).symm
      exact congrArg (fun z => jmin (nI 99) (z + nI 1)) (j_pI_off (by omega))
    · rw [j_pI_off e2, j_pI_off e1, j_pI_off e1, j_pI_off e2]
theorem swM_7 {g : Nat → Int32} {ν : j_M} {l : Nat} : ∀ k, k ≤ l → (swM g ν k).1 7 l = ν.1 7 l := by
  intro k
  induction k with
  | zero => intro _; rfl
  | succ k ih =>
    intro hk
    show (if (swM g ν k).1 7 k = -1 then swM g ν k else sw1 (swM g ν k) k (g k)).1 7 l = _
    split
    · exact ih (by omega)
    · rw [← ih (by omega)]
      unfold sw1
      rw [j_pI_off (by omega), j_pI_off (by omega), j_pI_off (by omega)]
theorem swM_o {g : Nat → Int32} {ν : j_M} {c j : Nat} (h : c ≠ 7) (h8 : c ≠ 8) : ∀ k, (swM g ν k).1 c j = ν.1 c j := by
  intro k
  induction k with
  | zero => rfl
  | succ k ih =>
    show (if (swM g ν k).1 7 k = -1 then swM g ν k else sw1 (swM g ν k) k (g k)).1 c j = _
    split
    · exact ih
    · rw [← ih]
      unfold sw1
      rw [j_pI_off (by omega), j_pI_off (by omega), j_pI_off (by omega)]
theorem swM_2 {g : Nat → Int32} {ν : j_M} : ∀ k, (swM g ν k).2 = ν.2 := by
  intro k
  induction k with
  | zero => rfl
  | succ k ih =>
    show (if (swM g ν k).1 7 k = -1 then swM g ν k else sw1 (swM g ν k) k (g k)).2 = _
    split <;> exact ih
theorem swM_n {g : Nat → Int32} {ν : j_M} {k : Nat} (h : ν.1 7 k = -1) : swM g ν (k + 1) = swM g ν k := if_pos ((swM_7 k (Nat.le_refl _)).trans h)
theorem swM_y {g : Nat → Int32} {ν : j_M} {k : Nat} (h : ¬ ν.1 7 k = -1) : swM g ν (k + 1) = sw1 (swM g ν k) k (g k) := if_neg (by rw [swM_7 k (Nat.le_refl _)]; exact h)

set_option maxRecDepth 100000 in
theorem c_X3_gain (x : Nat) (hx : j_ob ΛX x 3) (s : Nat) (hs : s < 8) (μ : j_M) : Ct yX3_gain cX3_gain 2 none 1 ΛX [.ref x, .int (nI s)] μ (pV fun μ2 => μ2 = j_pI μ (x + 1) s (jmin (nI 99) (μ.1 (x + 1) s + nI 1))) := by
  refine Ct.go (lo := [some (.ref x), some (.int (nI s))]) (by decide) (Nat.le_of_ble_eq_true rfl) rfl rfl (fun X F => ?_)
  have F : Fx X cX3_gain RX3 1 none ΛX := F
  refine v_iload_n (pc := 0) (i := 1) F dX3_gain_0 rfl rfl ?_
  refine v_callSI (pc := 1) (As := [_]) (rest := []) F mX9_isSort kX3_46 sm_X9_isSort dX3_gain_1 (c_X9_isSort _ _) (by decide) rfl rfl (Nat.le_of_ble_eq_true rfl) (fun x1 μ1 hp1 => ?_)
  rw [hp1.1, hp1.2]
  refine v_if_eq (pc := 4) (tgt := 26) F dX3_gain_4 (by decide) (fun h4_2 => ?_) (fun h4_2 => ?_)
  · rw [b2i_0] at h4_2
    exact absurd ((inR_iff (by decide)).mpr ⟨s, hs, rfl⟩) h4_2
  · rw [b2i_0] at h4_2
    rw [Classical.not_not] at h4_2
    refine v_aload_n (pc := 7) (i := 0) F dX3_gain_7 rfl rfl ?_
    refine v_getR (pc := 8) (o := 1) F fX3_9 dX3_gain_8 rfl hx ?_
    refine v_topR (y := x + 1) rfl ?_
    refine v_iload_n (pc := 11) (i := 1) F dX3_gain_11 rfl rfl ?_
    refine v_bipush (pc := 12) (v := nI 99) F dX3_gain_12 (by decide) ?_
    refine v_aload_n (pc := 14) (i := 0) F dX3_gain_14 rfl rfl ?_
    refine v_getR (pc := 15) (o := 1) F fX3_9 dX3_gain_15 rfl hx ?_
    refine v_topR (y := x + 1) rfl ?_
    refine v_iload_n (pc := 18) (i := 1) F dX3_gain_18 rfl rfl ?_
    refine v_ialdN (pc := 19) (k0 := s) F dX3_gain_19 (lx3_0 hx) (rfl) (by omega) (by decide) ?_
    refine v_iconst (pc := 20) (v := nI 1) F dX3_gain_20 (by decide) ?_
    refine v_iadd (pc := 21) F dX3_gain_21 ?_
    refine v_mmin (pc := 22) F dX3_gain_22 mlX3_50 (Nat.le_of_ble_eq_true rfl) ?_
    refine v_iastN (pc := 25) (k0 := s) F dX3_gain_25 (lx3_0 hx) (rfl) (by omega) (by decide) ?_
    refine v_return (pc := 26) F dX3_gain_26 ?_
    rfl

set_option maxRecDepth 100000 in
theorem c_X3_lose (x : Nat) (hx : j_ob ΛX x 3) (s : Nat) (hs : s < 8) (μ : j_M) : Ct yX3_lose cX3_lose 2 none 1 ΛX [.ref x, .int (nI s)] μ (pV fun μ2 => μ2 = j_pI μ (x + 1) s (jmax (nI 0) (μ.1 (x + 1) s - nI 1))) := by
  refine Ct.go (lo := [some (.ref x), some (.int (nI s))]) (by decide) (Nat.le_of_ble_eq_true rfl) rfl rfl (fun X F => ?_)
  have F : Fx X cX3_lose RX3 1 none ΛX := F
  refine v_iload_n (pc := 0) (i := 1) F dX3_lose_0 rfl rfl ?_
  refine v_callSI (pc := 1) (As := [_]) (rest := []) F mX9_isSort kX3_46 sm_X9_isSort dX3_lose_1 (c_X9_isSort _ _) (by decide) rfl rfl (Nat.le_of_ble_eq_true rfl) (fun x1 μ1 hp1 => ?_)
  rw [hp1.1, hp1.2]
  refine v_if_eq (pc := 4) (tgt := 25) F dX3_lose_4 (by decide) (fun h4_2 => ?_) (fun h4_2 => ?_)
  · rw [b2i_0] at h4_2
    exact absurd ((inR_iff (by decide)).mpr ⟨s, hs, rfl⟩) h4_2
  · rw [b2i_0] at h4_2
    rw [Classical.not_not] at h4_2
    refine v_aload_n (pc := 7) (i := 0) F dX3_lose_7 rfl rfl ?_
    refine v_getR (pc := 8) (o := 1) F fX3_9 dX3_lose_8 rfl hx ?_
    refine v_topR (y := x + 1) rfl ?_
    refine v_iload_n (pc := 11) (i := 1) F dX3_lose_11 rfl rfl ?_
    refine v_iconst (pc := 12) (v := nI 0) F dX3_lose_12 (by decide) ?_
    refine v_aload_n (pc := 13) (i := 0) F dX3_lose_13 rfl rfl ?_
    refine v_getR (pc := 14) (o := 1) F fX3_9 dX3_lose_14 rfl hx ?_
    refine v_topR (y := x + 1) rfl ?_
    refine v_iload_n (pc := 17) (i := 1) F dX3_lose_17 rfl rfl ?_
    refine v_ialdN (pc := 18) (k0 := s) F dX3_lose_18 (lx3_0 hx) (rfl) (by omega) (by decide) ?_
    refine v_iconst (pc := 19) (v := nI 1) F dX3_lose_19 (by decide) ?_
    refine v_isub (pc := 20) F dX3_lose_20 ?_
    refine v_mmax (pc := 21) F dX3_lose_21 mlX3_56 (Nat.le_of_ble_eq_true rfl) ?_
    refine v_iastN (pc := 24) (k0 := s) F dX3_lose_24 (lx3_0 hx) (rfl) (by omega) (by decide) ?_
    refine v_return (pc := 25) F dX3_lose_25 ?_
    rfl

set_option maxRecDepth 100000 in
theorem c_X6_carryOut (x : Nat) (hx : j_ob ΛX x 6) (b : Nat) (hb : j_ob ΛX b 4) (n : Nat) (ν : j_M) (μ : j_M) (hS : SQ μ b ν.1 n) (hxb : x + 3 ≤ b ∨ b + 21 ≤ x) (gv : Nat → Int32) (hg : ∀ l, l < n → μ.1 (x + 2) l = gv l) (h7 : ∀ l, l < n → (ν.1 7 l = -1 ∧ gv l = -1) ∨ (∃ s0 s1, s0 < 8 ∧ s1 < 8 ∧ ν.1 7 l = nI s0 ∧ gv l = nI s1)) : Ct yX6_carryOut cX6_carryOut 4 none 2 ΛX [.ref x, .ref b] μ (pV fun μ2 => SQ μ2 b (swM gv ν n).1 n ∧ Fm (PC b) μ μ2) := by
  refine Ct.go (lo := [some (.ref x), some (.ref b), none, none]) (by decide) (Nat.le_of_ble_eq_true rfl) rfl rfl (fun X F => ?_)
  have F : Fx X cX6_carryOut RX6 2 none ΛX := F
  have hn8 := hS.2
  refine v_iconst (pc := 0) (v := nI 0) F dX6_carryOut_0 (by decide) ?_
  refine v_istore_n (pc := 1) (lo' := [some (.ref _), some (.ref _), some (.int _), _]) F dX6_carryOut_1 rfl rfl (Nat.le_of_ble_eq_true rfl) rfl ?_
  refine j_up n (fun k => ∀ μ' : j_M, (SQ μ' b (swM gv ν k).1 n ∧ Fm (PC b) μ μ') → V X _ 2 [some (.ref x), some (.ref b), some (.int (nI k)), none] [] μ') (fun k hk ih μ' hI => ?_) 0 (Nat.zero_le _) μ (⟨hS, Fm.rf⟩)
  refine v_iload_n (pc := 2) (i := 2) F dX6_carryOut_2 rfl rfl ?_
  refine v_aload_n (pc := 3) (i := 1) F dX6_carryOut_3 rfl rfl ?_
  refine v_getI (pc := 4) F fX6_34 dX6_carryOut_4 rfl hb ?_
  refine v_topE (y := nI n) (hI.1.1.cnt) ?_
  refine v_icmp_ge (pc := 7) (tgt := 61) F dX6_carryOut_7 (by decide) (fun h7_1 => ?_) (fun h7_1 => ?_)
  · rw [nI_leI (by omega) (by omega)] at h7_1
    refine v_return (pc := 61) F dX6_carryOut_61 ?_
    have e : k = n := by omega
    subst e
    exact hI
  · rw [nI_leI (by omega) (by omega)] at h7_1
    refine v_aload_n (pc := 10) (i := 1) F dX6_carryOut_10 rfl rfl ?_
    refine v_getR (pc := 11) (o := 3) F fX6_46 dX6_carryOut_11 rfl hb ?_
    refine v_topR (y := b + 3) rfl ?_
    refine v_iload_n (pc := 14) (i := 2) F dX6_carryOut_14 rfl rfl ?_
    refine v_aald14N (pc := 15) (k0 := k) (x := b + 5 + 2 * k) F dX6_carryOut_15 (lx4_2 hb) (rfl) (by omega) (by decide) (by simp only [j_ro]; first | rfl | omega | (split <;> omega)) ?_
    have ho2 : j_ob ΛX (b + 5 + 2 * k) 3 := by
      have q := lxL (lx4_2 hb) (j := k) (by omega)
      simp only [j_ro] at q
      exact (by first | exact q | (rw [show b + 5 + 2 * k = _ from (by first | rfl | omega)]; exact q))
    refine v_astore_n (pc := 16) (lo' := [some (.ref _), some (.ref _), some (.int _), some (.ref _)]) F dX6_carryOut_16 rfl rfl (Nat.le_of_ble_eq_true rfl) rfl ?_
    refine v_aload_n (pc := 17) (i := 0) F dX6_carryOut_17 rfl rfl ?_
    refine v_getR (pc := 18) (o := 2) F fX6_15 dX6_carryOut_18 rfl hx ?_
    refine v_topR (y := x + 2) rfl ?_
    refine v_iload_n (pc := 21) (i := 2) F dX6_carryOut_21 rfl rfl ?_
    refine v_ialdN (pc := 22) (k0 := k) F dX6_carryOut_22 (lx6_1 hx) (rfl) (by omega) (by decide) ?_
    refine v_topE (y := (gv k)) ((hI.2.1 _ _ (by omega)).trans (hg k (by omega))) ?_
    refine v_iconst (pc := 23) (v := (-1)) F dX6_carryOut_23 (by decide) ?_
    rcases h7 k (by omega) with ⟨hk7, hgk⟩ | ⟨s0, s1, hs0, hs1, hs0e, hgk⟩
    · skip
      refine v_icmp_eq (pc := 24) (tgt := 55) F dX6_carryOut_24 (by decide) (fun h24_3 => ?_) (fun h24_3 => ?_)
      · skip
        refine v_iinc (pc := 55) (i := 2) (v := nI (k + 1)) (lo' := [some (.ref _), some (.ref _), some (.int _), some (.ref _)]) F dX6_carryOut_55 rfl (j_inc _) rfl rfl ?_
        refine v_goto (pc := 58) (tgt := 2) F dX6_carryOut_58 (by decide) ?_
        refine v_drop (i := 3) (lo' := [some (.ref _), some (.ref _), some (.int _), _]) rfl ?_
        refine ih (by omega) _ ⟨?_, hI.2⟩
        rw [swM_n hk7]
        exact hI.1
      · skip
        exact absurd hgk h24_3
    · skip
      have hk7 : ¬ ν.1 7 k = -1 := by rw [hs0e]; exact j_m1 (by omega)
      refine v_icmp_eq (pc := 24) (tgt := 55) F dX6_carryOut_24 (by decide) (fun h24_4 => ?_) (fun h24_4 => ?_)
      · skip
        rw [hgk] at h24_4; exact absurd h24_4 (j_m1 (by omega))
      · skip
        refine v_aload_n (pc := 27) (i := 3) F dX6_carryOut_27 rfl rfl ?_
        refine v_aload_n (pc := 28) (i := 3) F dX6_carryOut_28 rfl rfl ?_
        refine v_getI (pc := 29) F fX6_50 dX6_carryOut_29 rfl ho2 ?_
        refine v_topE (y := nI s0) (((hI.1.1.lk k (by omega)).sh).trans ((swM_7 k (Nat.le_refl _)).trans hs0e)) ?_
        refine v_callVV (pc := 32) (As := [_]) (rest := []) (c := 3) F mX3_lose kX6_64 im_X3_lose se_X3_lose dX6_carryOut_32 rfl rfl (by decide) (c_X3_lose _ ho2 s0 (by omega) _) (by decide) rfl rfl (Nat.le_of_ble_eq_true rfl) ho2 (fun μ5 hp5 => ?_)
        rw [hp5]
        refine v_aload_n (pc := 35) (i := 3) F dX6_carryOut_35 rfl rfl ?_
        refine v_aload_n (pc := 36) (i := 0) F dX6_carryOut_36 rfl rfl ?_
        refine v_getR (pc := 37) (o := 2) F fX6_15 dX6_carryOut_37 rfl hx ?_
        refine v_topR (y := x + 2) rfl ?_
        refine v_iload_n (pc := 40) (i := 2) F dX6_carryOut_40 rfl rfl ?_
        refine v_ialdN (pc := 41) (k0 := k) F dX6_carryOut_41 (lx6_1 hx) (rfl) (by omega) (by decide) ?_
        refine v_topE (y := nI s1) ((j_pI_off (by omega)).trans ((hI.2.1 _ _ (by omega)).trans ((hg k (by omega)).trans hgk))) ?_
        refine v_callVV (pc := 42) (As := [_]) (rest := []) (c := 3) F mX3_gain kX6_68 im_X3_gain se_X3_gain dX6_carryOut_42 rfl rfl (by decide) (c_X3_gain _ ho2 s1 (by omega) _) (by decide) rfl rfl (Nat.le_of_ble_eq_true rfl) ho2 (fun μ6 hp6 => ?_)
        rw [hp6]
        refine v_aload_n (pc := 45) (i := 3) F dX6_carryOut_45 rfl rfl ?_
        refine v_aload_n (pc := 46) (i := 0) F dX6_carryOut_46 rfl rfl ?_
        refine v_getR (pc := 47) (o := 2) F fX6_15 dX6_carryOut_47 rfl hx ?_
        refine v_topR (y := x + 2) rfl ?_
        refine v_iload_n (pc := 50) (i := 2) F dX6_carryOut_50 rfl rfl ?_
        refine v_ialdN (pc := 51) (k0 := k) F dX6_carryOut_51 (lx6_1 hx) (rfl) (by omega) (by decide) ?_
        refine v_topE (y := nI s1) ((j_pI_off (by omega)).trans ((j_pI_off (by omega)).trans ((hI.2.1 _ _ (by omega)).trans ((hg k (by omega)).trans hgk)))) ?_
        refine v_put (pc := 52) F fX6_50 dX6_carryOut_52 rfl rfl rfl ho2 ?_
        refine v_iinc (pc := 55) (i := 2) (v := nI (k + 1)) (lo' := [some (.ref _), some (.ref _), some (.int _), some (.ref _)]) F dX6_carryOut_55 rfl (j_inc _) rfl rfl ?_
        refine v_goto (pc := 58) (tgt := 2) F dX6_carryOut_58 (by decide) ?_
        refine v_drop (i := 3) (lo' := [some (.ref _), some (.ref _), some (.int _), _]) rfl ?_
        refine ih (by omega) _ ⟨⟨?_, hn8⟩, ((hI.2.pI (by omega)).pI (by omega)).pI (by omega)⟩
        rw [swM_y hk7, hgk, sw1_eq ((swM_7 k (Nat.le_refl _)).trans hs0e) hs0 hs1]
        have q1 := hI.1.1.has (l := k) (s := s0) (v := jmax (nI 0) (μ'.1 (b + 5 + 2 * k + 1) s0 - nI 1)) hn8 (by omega) hs0
        have q2 := q1.has (l := k) (s := s1) (v := jmin (nI 99) ((j_pI μ' (b + 5 + 2 * k + 1) s0 (jmax (nI 0) (μ'.1 (b + 5 + 2 * k + 1) s0 - nI 1))).1 (b + 5 + 2 * k + 1) s1 + nI 1)) hn8 (by omega) hs1
        have q3 := q2.pk (l := k) (j := 6) (v := nI s1) hn8 (by omega) (by omega) (by omega) (by omega)
        have r1 : μ'.1 (b + 5 + 2 * k + 1) s0 = (swM gv ν k).1 8 (8 * k + s0) := (hI.1.1.lk k (by omega)).ha s0 hs0
        rw [r1] at q1 q2 q3 ⊢
        have r2 : (j_pI μ' (b + 5 + 2 * k + 1) s0 (jmax (nI 0) ((swM gv ν k).1 8 (8 * k + s0) - nI 1))).1 (b + 5 + 2 * k + 1) s1 = (j_pI (swM gv ν k) 8 (8 * k + s0) (jmax (nI 0) ((swM gv ν k).1 8 (8 * k + s0) - nI 1))).1 8 (8 * k + s1) := (q1.lk k (by omega)).ha s1 hs1
        rw [r2] at q2 q3 ⊢
        exact q3

set_option maxRecDepth 100000 in
theorem c_X9_next (l : Int32) (μ ν : j_M) (hM : MI ν) (hR : Rel μ ν) : Ct yX9_next cX9_next 2 (some .int) 5 ΛX [.ref 0, .int l] μ (pI fun r μ2 => r = (s_next_ l ν).1 ∧ Rel μ2 (s_next_ l ν).2) := by
  refine Ct.go (lo := [some (.ref 0), some (.int l)]) (by decide) (Nat.le_of_ble_eq_true rfl) rfl rfl (fun X F => ?_)
  have F : Fx X cX9_next RX9 5 (some .int) ΛX := F
  obtain ⟨n, hW, hsh, htp, him⟩ := id hM
  have hn := hW.1
  have hn8 := hW.2.1
  have hnn := nn_eq hn hn8
  have ho := hW.own
  have hpw := j_pw hn8
  have hS : SQ μ 1 ν.1 n := ⟨by have := hR.sc; rwa [hnn] at this, hn8⟩
  refine v_aload_n (pc := 0) (i := 0) F dX9_next_0 rfl rfl ?_
  refine v_iload_n (pc := 1) (i := 1) F dX9_next_1 rfl rfl ?_
  refine v_callVI (pc := 2) (As := [_]) (rest := []) (c := 9) F mX9_isLooker kX9_126 im_X9_isLooker se_X9_isLooker dX9_next_2 rfl rfl (by decide) (c_X9_isLooker _ n ν.1 _ (hS)) (by decide) rfl rfl (Nat.le_of_ble_eq_true rfl) lx0 (fun x1 μ1 hp1 => ?_)
  rw [hp1.1, hp1.2]
  refine v_if_ne (pc := 5) (tgt := 15) F dX9_next_5 (by decide) (fun h5_2 => ?_) (fun h5_2 => ?_)
  · rw [b2i_0] at h5_2
    rw [Classical.not_not] at h5_2
    obtain ⟨k_l, hk_l, he_l⟩ := inR_of (by omega) h5_2
    subst he_l
    have ek_l : ix (nI k_l) = k_l := nI_clamp (by omega)
    refine v_aload_n (pc := 15) (i := 0) F dX9_next_15 rfl rfl ?_
    refine v_getR (pc := 16) (o := 98) F fX9_53 dX9_next_16 rfl lx0 ?_
    refine v_topR (y := 98) rfl ?_
    refine v_aload_n (pc := 19) (i := 0) F dX9_next_19 rfl rfl ?_
    refine v_getR (pc := 20) (o := 1) F fX9_12 dX9_next_20 rfl lx0 ?_
    refine v_topR (y := 1) rfl ?_
    refine v_callVV (pc := 23) (As := [_]) (rest := []) (c := 6) F mX6_settle kX9_353 im_X6_settle se_X6_settle dX9_next_23 rfl rfl (by decide) (c_X6_settle 98 (lx9_8 lx0) 1 (lx9_0 lx0) n ν.1 _ (hS) (by omega)) (by decide) rfl rfl (Nat.le_of_ble_eq_true rfl) (lx9_8 lx0) (fun μ3 hp3 => ?_)
    skip
    refine v_aload_n (pc := 26) (i := 0) F dX9_next_26 rfl rfl ?_
    refine v_getR (pc := 27) (o := 98) F fX9_53 dX9_next_27 rfl lx0 ?_
    refine v_topR (y := 98) rfl ?_
    refine v_getR (pc := 30) (o := 2) F fX9_356 dX9_next_30 rfl (lx9_8 lx0) ?_
    refine v_topR (y := 100) rfl ?_
    refine v_iload_n (pc := 33) (i := 1) F dX9_next_33 rfl rfl ?_
    refine v_ialdN (pc := 34) (k0 := k_l) F dX9_next_34 (lx6_1 (lx9_8 lx0)) (rfl) (by omega) (by decide) ?_
    refine v_topE (y := ((swK ν.1 n 8).2 k_l)) (hp3.2 k_l (by omega)) ?_
    refine v_ireturn (pc := 35) F dX9_next_35 (rfl) ?_
    simp only [s_next_, rj, hnn, h5_2, ek_l, ↓reduceIte]
    refine ⟨?_, ?_⟩ <;> first | exact trivial | exact rfl | exact (hR.X hM hp3.1 (fun c j z => by omega)) | exact Rel.rj hM hR (by decide)
  · rw [b2i_0] at h5_2
    refine v_aload_n (pc := 8) (i := 0) F dX9_next_8 rfl rfl ?_
    refine v_bipush (pc := 9) (v := (-2)) F dX9_next_9 (by decide) ?_
    refine v_callVI (pc := 11) (As := [_]) (rest := []) (c := 9) F mX9_refuse kX9_79 im_X9_refuse se_X9_refuse dX9_next_11 rfl rfl (by decide) (c_X9_refuse (-2) 2 (by decide) (by decide) (by decide) _) (by decide) rfl rfl (Nat.le_of_ble_eq_true rfl) lx0 (fun x4 μ4 hp4 => ?_)
    rw [hp4.1, hp4.2]
    refine v_ireturn (pc := 14) F dX9_next_14 (rfl) ?_
    simp only [s_next_, rj, hnn, h5_2, ↓reduceIte]
    refine ⟨?_, ?_⟩ <;> first | exact trivial | exact rfl | exact hR | exact Rel.rj hM hR (by decide)

set_option maxRecDepth 100000 in
theorem c_X9_swapped  (μ ν : j_M) (hM : MI ν) (hR : Rel μ ν) : Ct yX9_swapped cX9_swapped 1 (some .int) 5 ΛX [.ref 0] μ (pI fun r μ2 => r = (s_swapped ν).1 ∧ Rel μ2 (s_swapped ν).2) := by
  refine Ct.go (lo := [some (.ref 0)]) (by decide) (Nat.le_of_ble_eq_true rfl) rfl rfl (fun X F => ?_)
  have F : Fx X cX9_swapped RX9 5 (some .int) ΛX := F
  obtain ⟨n, hW, hsh, htp, him⟩ := id hM
  have hn := hW.1
  have hn8 := hW.2.1
  have hnn := nn_eq hn hn8
  have ho := hW.own
  have hpw := j_pw hn8
  have hS : SQ μ 1 ν.1 n := ⟨by have := hR.sc; rwa [hnn] at this, hn8⟩
  refine v_aload_n (pc := 0) (i := 0) F dX9_swapped_0 rfl rfl ?_
  refine v_getR (pc := 1) (o := 98) F fX9_53 dX9_swapped_1 rfl lx0 ?_
  refine v_topR (y := 98) rfl ?_
  refine v_aload_n (pc := 4) (i := 0) F dX9_swapped_4 rfl rfl ?_
  refine v_getR (pc := 5) (o := 1) F fX9_12 dX9_swapped_5 rfl lx0 ?_
  refine v_topR (y := 1) rfl ?_
  refine v_callVV (pc := 8) (As := [_]) (rest := []) (c := 6) F mX6_settle kX9_353 im_X6_settle se_X6_settle dX9_swapped_8 rfl rfl (by decide) (c_X6_settle 98 (lx9_8 lx0) 1 (lx9_0 lx0) n ν.1 _ (hS) (by omega)) (by decide) rfl rfl (Nat.le_of_ble_eq_true rfl) (lx9_8 lx0) (fun μ1 hp1 => ?_)
  skip
  refine v_aload_n (pc := 11) (i := 0) F dX9_swapped_11 rfl rfl ?_
  refine v_getR (pc := 12) (o := 98) F fX9_53 dX9_swapped_12 rfl lx0 ?_
  refine v_topR (y := 98) rfl ?_
  refine v_aload_n (pc := 15) (i := 0) F dX9_swapped_15 rfl rfl ?_
  refine v_getR (pc := 16) (o := 1) F fX9_12 dX9_swapped_16 rfl lx0 ?_
  refine v_topR (y := 1) rfl ?_
  refine v_callVI (pc := 19) (As := [_]) (rest := []) (c := 6) F mX6_countOthers kX9_359 im_X6_countOthers se_X6_countOthers dX9_swapped_19 rfl rfl (by decide) (c_X6_countOthers 98 (lx9_8 lx0) 1 (lx9_0 lx0) n ν.1 _ (SQ_F (hS) hp1.1 (fun c j z => by omega)) (swK ν.1 n 8).2 hp1.2) (by decide) rfl rfl (Nat.le_of_ble_eq_true rfl) (lx9_8 lx0) (fun x2 μ2 hp2 => ?_)
  rw [hp2.1, hp2.2]
  refine v_ireturn (pc := 22) F dX9_swapped_22 (rfl) ?_
  simp only [s_swapped, hnn, ↓reduceIte]
  refine ⟨?_, ?_⟩ <;> first | exact trivial | exact rfl | exact (hR.X hM hp1.1 (fun c j z => by omega)) | exact Rel.rj hM hR (by decide)

theorem Rel.swp {μ m ν : j_M} {g : Nat → Int32} {k : Nat} (hM : MI ν) (h : Rel μ ν) (hs : SQ m 1 (swM g ν k).1 (nn ν)) (hF : Fm (PC 1) μ m) : Rel m (swM g ν k) := by
  have hn : nn (swM g ν k) = nn ν := by unfold nn; rw [swM_o (by omega) (by omega)]
  refine h.scn hM hF (fun c j z => Or.inl z) ?_ (fun c j z => swM_o (by omega) (by omega) k) (swM_2 k)
  rw [hn]; exact hs.1
theorem sw_h7 {w : Nat → Nat → Int32} {n : Nat} (hW : WI w n) : ∀ l, l < n → (w 7 l = -1 ∧ (swK w n 8).2 l = -1) ∨ (∃ s0 s1, s0 < 8 ∧ s1 < 8 ∧ w 7 l = nI s0 ∧ (swK w n 8).2 l = nI s1) := by
  intro l hl
  rcases hW.sh hl with h | ⟨s0, h0, h⟩
  · exact Or.inl ⟨h, (sw_none h 8).2⟩
  · obtain ⟨s1, h1, h2⟩ := sw_val hW.2.1 (fun l hl => hW.sh hl) hl (by rw [h]; exact j_m1 (by omega))
    exact Or.inr ⟨s0, s1, h0, h1, h, h2⟩

set_option maxRecDepth 100000 in
theorem c_X9_swap  (μ ν : j_M) (hM : MI ν) (hR : Rel μ ν) : Ct yX9_swap cX9_swap 2 (some .int) 5 ΛX [.ref 0] μ (pI fun r μ2 => r = (s_swap ν).1 ∧ Rel μ2 (s_swap ν).2) := by
  refine Ct.go (lo := [some (.ref 0), none]) (by decide) (Nat.le_of_ble_eq_true rfl) rfl rfl (fun X F => ?_)
  have F : Fx X cX9_swap RX9 5 (some .int) ΛX := F
  obtain ⟨n, hW, hsh, htp, him⟩ := id hM
  have hn := hW.1
  have hn8 := hW.2.1
  have hnn := nn_eq hn hn8
  have ho := hW.own
  have hpw := j_pw hn8
  have hS : SQ μ 1 ν.1 n := ⟨by have := hR.sc; rwa [hnn] at this, hn8⟩
  refine v_aload_n (pc := 0) (i := 0) F dX9_swap_0 rfl rfl ?_
  refine v_getR (pc := 1) (o := 98) F fX9_53 dX9_swap_1 rfl lx0 ?_
  refine v_topR (y := 98) rfl ?_
  refine v_aload_n (pc := 4) (i := 0) F dX9_swap_4 rfl rfl ?_
  refine v_getR (pc := 5) (o := 1) F fX9_12 dX9_swap_5 rfl lx0 ?_
  refine v_topR (y := 1) rfl ?_
  refine v_callVV (pc := 8) (As := [_]) (rest := []) (c := 6) F mX6_settle kX9_353 im_X6_settle se_X6_settle dX9_swap_8 rfl rfl (by decide) (c_X6_settle 98 (lx9_8 lx0) 1 (lx9_0 lx0) n ν.1 _ (hS) (by omega)) (by decide) rfl rfl (Nat.le_of_ble_eq_true rfl) (lx9_8 lx0) (fun μ1 hp1 => ?_)
  skip
  refine v_aload_n (pc := 11) (i := 0) F dX9_swap_11 rfl rfl ?_
  refine v_getR (pc := 12) (o := 98) F fX9_53 dX9_swap_12 rfl lx0 ?_
  refine v_topR (y := 98) rfl ?_
  refine v_aload_n (pc := 15) (i := 0) F dX9_swap_15 rfl rfl ?_
  refine v_getR (pc := 16) (o := 1) F fX9_12 dX9_swap_16 rfl lx0 ?_
  refine v_topR (y := 1) rfl ?_
  refine v_callVI (pc := 19) (As := [_]) (rest := []) (c := 6) F mX6_countOthers kX9_359 im_X6_countOthers se_X6_countOthers dX9_swap_19 rfl rfl (by decide) (c_X6_countOthers 98 (lx9_8 lx0) 1 (lx9_0 lx0) n ν.1 _ (SQ_F (hS) hp1.1 (fun c j z => by omega)) (swK ν.1 n 8).2 hp1.2) (by decide) rfl rfl (Nat.le_of_ble_eq_true rfl) (lx9_8 lx0) (fun x2 μ2 hp2 => ?_)
  rw [hp2.1, hp2.2]
  refine v_istore_n (pc := 22) (lo' := [some (.ref _), some (.int _)]) F dX9_swap_22 rfl rfl (Nat.le_of_ble_eq_true rfl) rfl ?_
  refine v_aload_n (pc := 23) (i := 0) F dX9_swap_23 rfl rfl ?_
  refine v_getR (pc := 24) (o := 98) F fX9_53 dX9_swap_24 rfl lx0 ?_
  refine v_topR (y := 98) rfl ?_
  refine v_aload_n (pc := 27) (i := 0) F dX9_swap_27 rfl rfl ?_
  refine v_getR (pc := 28) (o := 1) F fX9_12 dX9_swap_28 rfl lx0 ?_
  refine v_topR (y := 1) rfl ?_
  refine v_callVV (pc := 31) (As := [_]) (rest := []) (c := 6) F mX6_carryOut kX9_362 im_X6_carryOut se_X6_carryOut dX9_swap_31 rfl rfl (by decide) (c_X6_carryOut 98 (lx9_8 lx0) 1 (lx9_0 lx0) n ν _ (SQ_F (hS) hp1.1 (fun c j z => by omega)) (by omega) (swK ν.1 n 8).2 hp1.2 (sw_h7 hW)) (by decide) rfl rfl (Nat.le_of_ble_eq_true rfl) (lx9_8 lx0) (fun μ3 hp3 => ?_)
  skip
  refine v_iload_n (pc := 34) (i := 1) F dX9_swap_34 rfl rfl ?_
  refine v_ireturn (pc := 35) F dX9_swap_35 (rfl) ?_
  unfold s_swap
  rw [hnn]
  exact ⟨rfl, (hR.X hM hp1.1 (fun c j z => by omega)).swp hM (by rw [hnn]; exact hp3.1) hp3.2⟩
