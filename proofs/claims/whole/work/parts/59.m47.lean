/-! the class: image, back, status -/
theorem wold_KM {v : j_M} {c j : Nat} (h : aAll c j = true) : wold (KM v kAll).1 c j = v.1 c j := by
  obtain ⟨h1, h2⟩ := whd_kt (w := v.1) h
  show (if 14 = 14 ∧ kAll _ = true then ktV v.1 _ else _) = _
  rw [if_pos ⟨rfl, decide_eq_true h2⟩]
  exact h1
theorem aA {c j : Nat} (h : (c = 1 ∧ j < 12) ∨ (2 ≤ c ∧ c ≤ 7 ∧ j < 8) ∨ (c = 8 ∧ j < 64) ∨ (c = 0 ∧ (j = 1 ∨ j = 9 ∨ j = 10))) : aAll c j = true := decide_eq_true h
theorem Rel.img {μ m ν : j_M} (hM : MI ν) (h : Rel μ ν) (hs : SQ m 43 ν.1 (nn ν)) (hF : Fm (PC 43) μ m) : Rel (j_pI m 0 3 (nI 1)) (KM (j_pI ν 0 21 1) kAll) := by
  have hn8 := hM.n8
  have f : ∀ c j, c ≠ 14 → ¬ (c = 0 ∧ j = 21) → (KM (j_pI ν 0 21 1) kAll).1 c j = ν.1 c j := fun c j q q2 => (if_neg (fun z => q z.1)).trans (j_pI_off q2)
  have e : ∀ c j, ¬ (43 ≤ c ∧ c < 64) → ¬ (c = 0 ∧ j = 3) → (j_pI m 0 3 (nI 1)).1 c j = μ.1 c j := fun c j q q2 => (j_pI_off q2).trans (hF.1 c j (fun z => q (by omega)))
  have hw : ∀ c j, aAll c j = true → wold (KM (j_pI ν 0 21 1) kAll).1 c j = ν.1 c j := fun c j q => (wold_KM q).trans (j_pI_off (fun z => by rw [z.1, z.2] at q; exact absurd q (by decide)))
  refine ⟨h.sc.keepR hM (fun c a b => funext fun j => e c j (by omega) (by omega)) (fun c j z => f c j (by omega) (by omega)), fun s hsl => (h.sf s hsl).keep (fun j => e _ _ (by omega) (by omega)) (by show m.2 _ = _; rw [hF.2]) (f _ _ (by omega) (by omega)) (f _ _ (by omega) (by omega)) (fun j _ => rfl), h.tq.keep (e _ _ (by omega) (by omega)) (funext fun j => e _ _ (by omega) (by omega)) (f _ _ (by omega) (by omega)) (funext fun j => f _ _ (by omega) (by omega)), h.rf.keep (funext fun j => e _ _ (by omega) (by omega)) (funext fun j => f _ _ (by omega) (by omega)), ⟨?_, fun _ => ?_⟩⟩
  · rw [j_pI_at]
    have e1 : (KM (j_pI ν 0 21 1) kAll).1 0 21 = (j_pI ν 0 21 1).1 0 21 := KM_w (by decide)
    rw [e1, j_pI_at]; rfl
  · rw [show ix (wold (KM (j_pI ν 0 21 1) kAll).1 0 1) = nn ν by unfold nn; rw [hw 0 1 (aA (by omega))]]
    exact ((hs.1.of hn8 (fun c j z1 z2 => j_pI_off (by omega))).w2 (fun p hp => hw 1 p (aA (by omega))) (fun c l z1 z2 z3 => hw c l (aA (by omega))) (fun j hj => hw 8 j (aA (by omega))) (hw 0 9 (aA (by omega))) (hw 0 10 (aA (by omega))))
def bkV (h : Int32) (n0 : Nat) : Int32 := if h < nI 10 + nI n0 then h else -1
/-- the shelves, some of them put right -/
def BQ (μ1 μ2 ν : j_M) (n0 k : Nat) : Prop := (∀ c, ¬ (104 ≤ c ∧ c < 120) → μ2.1 c = μ1.1 c) ∧ μ2.2 = μ1.2 ∧ ∀ s, s < 8 → μ2.1 (104 + 2 * s) 1 = (if s < k then bkV (ν.1 10 s) n0 else ν.1 10 s) ∧ (inQ 5 (ν.1 10 s) = true → μ2.1 (104 + 2 * s) 2 = ν.1 11 s)
theorem BQ_n {μ1 μ2 ν : j_M} {n0 k : Nat} (h : BQ μ1 μ2 ν n0 k) (hk : k < 8) (hv : bkV (ν.1 10 k) n0 = ν.1 10 k) : BQ μ1 μ2 ν n0 (k + 1) := by
  refine ⟨h.1, h.2.1, fun s hs => ⟨?_, (h.2.2 s hs).2⟩⟩
  rw [(h.2.2 s hs).1]
  by_cases e : s = k
  · subst e; rw [if_neg (by omega), if_pos (by omega), hv]
  · by_cases e2 : s < k
    · rw [if_pos e2, if_pos (by omega)]
    · rw [if_neg e2, if_neg (by omega)]
theorem BQ_y {μ1 μ2 ν : j_M} {n0 k : Nat} (h : BQ μ1 μ2 ν n0 k) (hk : k < 8) (hv : bkV (ν.1 10 k) n0 = -1) (hr : ¬ inQ 5 (ν.1 10 k) = true) : BQ μ1 (j_pI (j_pI μ2 (104 + 2 * k) 1 (-1)) (104 + 2 * k) 2 (nI 0)) ν n0 (k + 1) := by
  refine ⟨fun c q => ?_, h.2.1, fun s hs => ?_⟩
  · rw [j_pI_ne (by omega), j_pI_ne (by omega)]; exact h.1 c q
  · by_cases e : s = k
    · subst e
      refine ⟨?_, fun z => absurd z hr⟩
      rw [j_pI_off (by omega), j_pI_at, if_pos (by omega), hv]
    · refine ⟨?_, fun z => ?_⟩
      · rw [j_pI_off (by omega), j_pI_off (by omega), (h.2.2 s hs).1]
        by_cases e2 : s < k
        · rw [if_pos e2, if_pos (by omega)]
        · rw [if_neg e2, if_neg (by omega)]
      · rw [j_pI_off (by omega), j_pI_off (by omega)]; exact (h.2.2 s hs).2 z
theorem bk_1 {n0 : Nat} (h : n0 ≤ 8) : bkV (-1) n0 = -1 := by
  unfold bkV
  split <;> rfl
theorem bk_2 {j n0 : Nat} (hj : j < 10 + n0) (h : n0 ≤ 8) : bkV (nI j) n0 = nI j := by
  unfold bkV
  rw [nI_add, if_pos ((nI_ltI (by omega) (by omega)).mpr (by omega))]
theorem bk_3 {j n0 : Nat} (hj : 10 + n0 ≤ j) (hj2 : j < 100) (h : n0 ≤ 8) : bkV (nI j) n0 = -1 := by
  unfold bkV
  rw [nI_add, if_neg (fun z => by have := (nI_ltI (by omega) (by omega)).mp z; omega)]
theorem Rel.bck {μ m1 m2 ν : j_M} {n0 : Nat} (hM : MI ν) (h : Rel μ ν) (h21 : ν.1 0 21 = 1) (hn0 : wold ν.1 0 1 = nI n0) (hs : SQ m1 1 (wold ν.1) n0) (hF : Fm (PC 1) μ m1) (hB : BQ m1 m2 ν n0 8) : Rel m2 (bkM (AM ν aAll) (nI 10 + (AM ν aAll).1 0 1) 8) := by
  have hn8 := hs.2
  have a1 : (AM ν aAll).1 0 1 = nI n0 := (AM_y (aA (by omega))).trans hn0
  rw [a1]
  have hw : ∀ c j, aAll c j = true → (bkM (AM ν aAll) (nI 10 + nI n0) 8).1 c j = wold ν.1 c j := fun c j q => by
    have hc : c ≠ 10 := fun z => by rw [z] at q; exact absurd (of_decide_eq_true q) (by omega)
    exact (if_neg (fun z => hc z.1)).trans (AM_y q)
  have f : ∀ c j, ¬ aAll c j = true → c ≠ 10 → (bkM (AM ν aAll) (nI 10 + nI n0) 8).1 c j = ν.1 c j := fun c j q q2 => (if_neg (fun z => q2 z.1)).trans (AM_w q)
  have nA : ∀ {c j : Nat}, ¬ ((c = 1 ∧ j < 12) ∨ (2 ≤ c ∧ c ≤ 7 ∧ j < 8) ∨ (c = 8 ∧ j < 64) ∨ (c = 0 ∧ (j = 1 ∨ j = 9 ∨ j = 10))) → ¬ aAll c j = true := fun q z => q (of_decide_eq_true z)
  have h10 : ∀ s, s < 8 → (bkM (AM ν aAll) (nI 10 + nI n0) 8).1 10 s = bkV (ν.1 10 s) n0 := fun s hsl => by
    show (if 10 = 10 ∧ s < 8 ∧ ¬ (AM ν aAll).1 10 s < nI 10 + nI n0 then (-1 : Int32) else (AM ν aAll).1 10 s) = _
    rw [AM_w (nA (by omega))]
    unfold bkV
    by_cases c : ν.1 10 s < nI 10 + nI n0
    · rw [if_neg (fun z => z.2.2 c), if_pos c]
    · rw [if_pos ⟨rfl, hsl, c⟩, if_neg c]
  have hnn : nn (bkM (AM ν aAll) (nI 10 + nI n0) 8) = n0 := nn_eq ((hw 0 1 (aA (by omega))).trans hn0) hn8
  have g : ∀ c j, ¬ (1 ≤ c ∧ c < 22) → ¬ (104 ≤ c ∧ c < 120) → m2.1 c j = μ.1 c j := fun c j q q2 => by
    rw [hB.1 c q2]
    exact hF.1 c j (fun z => q (by omega))
  refine ⟨?_, fun s hsl => ⟨?_, fun z => ?_, fun j hj => ?_⟩, h.tq.keep (g _ _ (by omega) (by omega)) (funext fun j => g _ _ (by omega) (by omega)) (f _ _ (nA (by omega)) (by omega)) (funext fun j => f _ _ (nA (by omega)) (by omega)), h.rf.keep (funext fun j => g _ _ (by omega) (by omega)) (funext fun j => f _ _ (nA (by omega)) (by omega)), h.kq.keep hM (g _ _ (by omega) (by omega)) (fun c z1 z2 => funext fun j => g _ _ (by omega) (by omega)) (f _ _ (nA (by omega)) (by omega)) (funext fun j => f _ _ (nA (by omega)) (by omega))⟩
  · rw [hnn]
    exact (hs.1.of hn8 (fun c j z1 z2 => by rw [hB.1 c (by omega)])).w2 (fun p hp => hw 1 p (aA (by omega))) (fun c l z1 z2 z3 => hw c l (aA (by omega))) (fun j hj => hw 8 j (aA (by omega))) (hw 0 9 (aA (by omega))) (hw 0 10 (aA (by omega)))
  · rw [h10 s hsl, (hB.2.2 s hsl).1, if_pos hsl]
  · rw [h10 s hsl] at z
    rw [f 11 s (nA (by omega)) (by omega)]
    refine (hB.2.2 s hsl).2 ?_
    unfold bkV at z
    split at z
    · exact z
    · exact absurd z (by decide)
  · rw [hB.2.1, hF.2]
    exact (h.sf s hsl).2.2 j hj
theorem BQ_0 {μ m1 ν : j_M} {n0 : Nat} (h : Rel μ ν) (hF : Fm (PC 1) μ m1) : BQ m1 m1 ν n0 0 := ⟨fun _ _ => rfl, rfl, fun s hs => ⟨by rw [if_neg (by omega)]; exact (hF.1 _ _ (by omega)).trans (h.sf s hs).1, fun z => (hF.1 _ _ (by omega)).trans ((h.sf s hs).2.1 z)⟩⟩
theorem sub_m2 {a : Nat} : nI a - (-2) = nI (a + 2) := by
  rw [Int32.sub_eq_add_neg, show (-(-2) : Int32) = nI 2 by decide, nI_add]
theorem rf_no {v : Int32} (h : ¬ inB 12 16 v = true) (h1 : ¬ v - nI 12 < 0) (h2 : v - nI 12 ≤ nI 4) : False := by
  obtain ⟨j, h3, h4⟩ := nI_of h1
  rw [h4] at h2
  have h5 := (nI_leI h3 (by decide)).mp h2
  have h6 : v = nI (j + 12) := by
    rw [← nI_add, ← h4, Int32.sub_add_cancel]
  exact h (by rw [h6]; exact inB_def.mpr ⟨(nI_leI (by decide) (by omega)).mpr (by omega), (nI_leI (by omega) (by decide)).mpr (by omega)⟩)

set_option maxRecDepth 100000 in
theorem c_X9_image  (μ ν : j_M) (hM : MI ν) (hR : Rel μ ν) : Ct yX9_image cX9_image 1 (some .int) 3 ΛX [.ref 0] μ (pI fun r μ2 => r = (s_image ν).1 ∧ Rel μ2 (s_image ν).2) := by
  refine Ct.go (lo := [some (.ref 0)]) (by decide) (Nat.le_of_ble_eq_true rfl) rfl rfl (fun X F => ?_)
  have F : Fx X cX9_image RX9 3 (some .int) ΛX := F
  obtain ⟨n, hW, hsh, htp, him⟩ := id hM
  have hn := hW.1
  have hn8 := hW.2.1
  have hnn := nn_eq hn hn8
  have ho := hW.own
  have hpw := j_pw hn8
  have hS : SQ μ 1 ν.1 n := ⟨by have := hR.sc; rwa [hnn] at this, hn8⟩
  refine v_aload_n (pc := 0) (i := 0) F dX9_image_0 rfl rfl ?_
  refine v_getR (pc := 1) (o := 43) F fX9_19 dX9_image_1 rfl lx0 ?_
  refine v_topR (y := 43) rfl ?_
  refine v_aload_n (pc := 4) (i := 0) F dX9_image_4 rfl rfl ?_
  refine v_getR (pc := 5) (o := 1) F fX9_12 dX9_image_5 rfl lx0 ?_
  refine v_topR (y := 1) rfl ?_
  refine v_callVV (pc := 8) (As := [_]) (rest := []) (c := 4) F mX4_become kX9_213 im_X4_become se_X4_become dX9_image_8 rfl rfl (by decide) (c_X4_become 43 (lx9_2 lx0) 1 (lx9_0 lx0) n ν.1 _ (hS) (by omega)) (by decide) rfl rfl (Nat.le_of_ble_eq_true rfl) (lx9_2 lx0) (fun μ1 hp1 => ?_)
  skip
  refine v_aload_n (pc := 11) (i := 0) F dX9_image_11 rfl rfl ?_
  refine v_iconst (pc := 12) (v := nI 1) F dX9_image_12 (by decide) ?_
  refine v_put (pc := 13) F fX9_377 dX9_image_13 rfl rfl (by decide) lx0 ?_
  refine v_iconst (pc := 16) (v := nI 1) F dX9_image_16 (by decide) ?_
  refine v_ireturn (pc := 17) F dX9_image_17 (rfl) ?_
  exact ⟨rfl, hR.img hM (by rw [hnn]; exact hp1.1) hp1.2⟩

set_option maxRecDepth 100000 in
theorem c_X9_back  (μ ν : j_M) (hM : MI ν) (hR : Rel μ ν) : Ct yX9_back cX9_back 3 (some .int) 3 ΛX [.ref 0] μ (pI fun r μ2 => r = (s_back ν).1 ∧ Rel μ2 (s_back ν).2) := by
  refine Ct.go (lo := [some (.ref 0), none, none]) (by decide) (Nat.le_of_ble_eq_true rfl) rfl rfl (fun X F => ?_)
  have F : Fx X cX9_back RX9 3 (some .int) ΛX := F
  obtain ⟨n, hW, hsh, htp, him⟩ := id hM
  have hn := hW.1
  have hn8 := hW.2.1
  have hnn := nn_eq hn hn8
  have ho := hW.own
  have hpw := j_pw hn8
  have hS : SQ μ 1 ν.1 n := ⟨by have := hR.sc; rwa [hnn] at this, hn8⟩
  refine v_aload_n (pc := 0) (i := 0) F dX9_back_0 rfl rfl ?_
  refine v_getI (pc := 1) F fX9_377 dX9_back_1 rfl lx0 ?_
  refine v_topE (y := (ν.1 0 21)) (hR.kq.1) ?_
  refine v_if_ne (pc := 4) (tgt := 14) F dX9_back_4 (by decide) (fun h21 => ?_) (fun h21 => ?_)
  · skip
    obtain ⟨h21b, n0, hW0⟩ := him.resolve_left h21
    have hn0 := hW0.1
    have hn08 : n0 ≤ 8 := hW0.2.1
    have hS0 : SQ μ 43 (wold ν.1) n0 := ⟨by have := hR.kq.2 h21b; rwa [hn0, ix_nI (by omega)] at this, hn08⟩
    refine v_aload_n (pc := 14) (i := 0) F dX9_back_14 rfl rfl ?_
    refine v_getR (pc := 15) (o := 1) F fX9_12 dX9_back_15 rfl lx0 ?_
    refine v_topR (y := 1) rfl ?_
    refine v_aload_n (pc := 18) (i := 0) F dX9_back_18 rfl rfl ?_
    refine v_getR (pc := 19) (o := 43) F fX9_19 dX9_back_19 rfl lx0 ?_
    refine v_topR (y := 43) rfl ?_
    refine v_callVV (pc := 22) (As := [_]) (rest := []) (c := 4) F mX4_become kX9_213 im_X4_become se_X4_become dX9_back_22 rfl rfl (by decide) (c_X4_become 1 (lx9_0 lx0) 43 (lx9_2 lx0) n0 ((wold ν.1)) _ (hS0) (by omega)) (by decide) rfl rfl (Nat.le_of_ble_eq_true rfl) (lx9_0 lx0) (fun μ2 hp2 => ?_)
    skip
    refine v_iconst (pc := 25) (v := nI 0) F dX9_back_25 (by decide) ?_
    refine v_istore_n (pc := 26) (lo' := [some (.ref _), some (.int _), _]) F dX9_back_26 rfl rfl (Nat.le_of_ble_eq_true rfl) rfl ?_
    refine j_up 8 (fun k => ∀ μ' : j_M, BQ μ2 μ' ν n0 k → V X _ 27 [some (.ref 0), some (.int (nI k)), none] [] μ') (fun k hk ih μ' hI => ?_) 0 (Nat.zero_le _) _ (BQ_0 hR hp2.2)
    have hS3 : SQ μ' 1 (wold ν.1) n0 := ⟨hp2.1.1.of hn08 (fun c j z1 z2 => by rw [hI.1 c (by omega)]), hn08⟩
    refine v_iload_n (pc := 27) (i := 1) F dX9_back_27 rfl rfl ?_
    refine v_bipush (pc := 28) (v := nI 8) F dX9_back_28 (by decide) ?_
    refine v_icmp_ge (pc := 30) (tgt := 71) F dX9_back_30 (by decide) (fun h30_3 => ?_) (fun h30_3 => ?_)
    · rw [nI_leI (by omega) (by omega)] at h30_3
      refine v_iconst (pc := 71) (v := nI 1) F dX9_back_71 (by decide) ?_
      refine v_ireturn (pc := 72) F dX9_back_72 (rfl) ?_
      have e8 : k = 8 := by omega
      subst e8
      have hz : (ν.1 0 21 = 0) = False := eq_false h21
      simp only [s_back, hz, ↓reduceIte]
      exact ⟨(by first | exact trivial | exact rfl), hR.bck hM h21b hn0 hp2.1 hp2.2 hI⟩
    · rw [nI_leI (by omega) (by omega)] at h30_3
      refine v_aload_n (pc := 33) (i := 0) F dX9_back_33 rfl rfl ?_
      refine v_getR (pc := 34) (o := 103) F fX9_66 dX9_back_34 rfl lx0 ?_
      refine v_topR (y := 103) rfl ?_
      refine v_iload_n (pc := 37) (i := 1) F dX9_back_37 rfl rfl ?_
      refine v_aald15N (pc := 38) (k0 := k) (x := 104 + 2 * k) F dX9_back_38 (lx9_10 lx0) (rfl) (by omega) (by decide) (by simp only [j_ro]; first | rfl | omega | (split <;> omega)) ?_
      have ho4 : j_ob ΛX (104 + 2 * k) 5 := by
        have q := lxS (lx9_10 lx0) (j := k) (by omega)
        simp only [j_ro] at q
        exact (by first | exact q | (rw [show 104 + 2 * k = _ from (by first | rfl | omega)]; exact q))
      refine v_astore_n (pc := 39) (lo' := [some (.ref _), some (.int _), some (.ref _)]) F dX9_back_39 rfl rfl (Nat.le_of_ble_eq_true rfl) rfl ?_
      refine v_aload_n (pc := 40) (i := 2) F dX9_back_40 rfl rfl ?_
      refine v_callVI (pc := 41) (As := []) (rest := []) (c := 5) F mX5_isLooker kX9_102 im_X5_isLooker se_X5_isLooker dX9_back_41 rfl rfl (by decide) (c_X5_isLooker _ ho4 _) (by decide) rfl rfl (Nat.le_of_ble_eq_true rfl) ho4 (fun x5 μ5 hp5 => ?_)
      rw [hp5.1, hp5.2]
      rw [show μ'.1 (104 + 2 * k) 1 = ν.1 10 k from (hI.2.2 k (by omega)).1.trans (if_neg (by omega))]
      rcases hsh k (by omega) with hh | ⟨⟨j5, hj5, hh⟩, -⟩ | ⟨l, hl, hh⟩
      · skip
        have hbk : bkV (ν.1 10 k) n0 = ν.1 10 k := by rw [hh]; exact bk_1 hn08
        refine v_if_eq (pc := 44) (tgt := 65) F dX9_back_44 (by decide) (fun hx => ?_) (fun hx => ?_)
        · rw [b2i_0] at hx
          refine v_iinc (pc := 65) (i := 1) (v := nI (k + 1)) (lo' := [some (.ref _), some (.int _), some (.ref _)]) F dX9_back_65 rfl (j_inc _) rfl rfl ?_
          refine v_goto (pc := 68) (tgt := 27) F dX9_back_68 (by decide) ?_
          refine v_drop (i := 2) (lo' := [some (.ref _), some (.int _), _]) rfl ?_
          exact ih (by omega) _ (BQ_n hI (by omega) hbk)
        · rw [b2i_0] at hx
          rw [Classical.not_not] at hx
          rw [hh] at hx; exact absurd hx (by decide)
      · skip
        have hbk : bkV (ν.1 10 k) n0 = ν.1 10 k := by rw [hh]; exact bk_2 (by omega) hn08
        refine v_if_eq (pc := 44) (tgt := 65) F dX9_back_44 (by decide) (fun hx => ?_) (fun hx => ?_)
        · rw [b2i_0] at hx
          refine v_iinc (pc := 65) (i := 1) (v := nI (k + 1)) (lo' := [some (.ref _), some (.int _), some (.ref _)]) F dX9_back_65 rfl (j_inc _) rfl rfl ?_
          refine v_goto (pc := 68) (tgt := 27) F dX9_back_68 (by decide) ?_
          refine v_drop (i := 2) (lo' := [some (.ref _), some (.int _), _]) rfl ?_
          exact ih (by omega) _ (BQ_n hI (by omega) hbk)
        · rw [b2i_0] at hx
          rw [Classical.not_not] at hx
          rw [hh] at hx; have := (nI_leI (by omega) (by omega)).mp hx; omega
      · skip
        have hr5 : ¬ inQ 5 (ν.1 10 k) = true := by
          rw [hh]; intro z; obtain ⟨k0, q1, q2⟩ := inR_of (by decide) z; have := (nI_eq (by omega) (by omega)).mp q2; omega
        refine v_if_eq (pc := 44) (tgt := 65) F dX9_back_44 (by decide) (fun hx => ?_) (fun hx => ?_)
        · rw [b2i_0] at hx
          rw [hh] at hx; exact absurd ((nI_leI (by omega) (by omega)).mpr (by omega)) hx
        · rw [b2i_0] at hx
          rw [Classical.not_not] at hx
          refine v_aload_n (pc := 47) (i := 0) F dX9_back_47 rfl rfl ?_
          refine v_aload_n (pc := 48) (i := 2) F dX9_back_48 rfl rfl ?_
          refine v_getI (pc := 49) F fX9_105 dX9_back_49 rfl ho4 ?_
          refine v_topE (y := nI ((10 + l))) (((hI.2.2 k (by omega)).1.trans (if_neg (by omega))).trans hh) ?_
          refine v_bipush (pc := 52) (v := nI 10) F dX9_back_52 (by decide) ?_
          refine v_isub (pc := 54) F dX9_back_54 ?_
          refine v_topE (y := nI l) (h10_sub) ?_
          refine v_callVI (pc := 55) (As := [_]) (rest := []) (c := 9) F mX9_isLooker kX9_126 im_X9_isLooker se_X9_isLooker dX9_back_55 rfl rfl (by decide) (c_X9_isLooker _ n0 (wold ν.1) _ hS3) (by decide) rfl rfl (Nat.le_of_ble_eq_true rfl) lx0 (fun x9 μ9 hp9 => ?_)
          rw [hp9.1, hp9.2]
          refine v_if_ne (pc := 58) (tgt := 65) F dX9_back_58 (by decide) (fun hlk => ?_) (fun hlk => ?_)
          · rw [b2i_0] at hlk
            rw [Classical.not_not] at hlk
            have hbk : bkV (ν.1 10 k) n0 = ν.1 10 k := by
              obtain ⟨q, q1, q2⟩ := (inR_iff (by omega)).mp hlk
              have q3 := (nI_eq (by omega) (by omega)).mp q2
              rw [hh]; exact bk_2 (by omega) hn08
            refine v_iinc (pc := 65) (i := 1) (v := nI (k + 1)) (lo' := [some (.ref _), some (.int _), some (.ref _)]) F dX9_back_65 rfl (j_inc _) rfl rfl ?_
            refine v_goto (pc := 68) (tgt := 27) F dX9_back_68 (by decide) ?_
            refine v_drop (i := 2) (lo' := [some (.ref _), some (.int _), _]) rfl ?_
            exact ih (by omega) _ (BQ_n hI (by omega) hbk)
          · rw [b2i_0] at hlk
            have hbk : bkV (ν.1 10 k) n0 = -1 := by
              have q3 : ¬ l < n0 := fun z => hlk ((inR_iff (by omega)).mpr ⟨l, z, rfl⟩)
              rw [hh]; exact bk_3 (by omega) (by omega) hn08
            refine v_aload_n (pc := 61) (i := 2) F dX9_back_61 rfl rfl ?_
            refine v_callVV (pc := 62) (As := []) (rest := []) (c := 5) F mX5_holdNothing kX9_128 im_X5_holdNothing se_X5_holdNothing dX9_back_62 rfl rfl (by decide) (c_X5_holdNothing _ ho4 _) (by decide) rfl rfl (Nat.le_of_ble_eq_true rfl) ho4 (fun μ11 hp11 => ?_)
            rw [hp11]
            refine v_iinc (pc := 65) (i := 1) (v := nI (k + 1)) (lo' := [some (.ref _), some (.int _), some (.ref _)]) F dX9_back_65 rfl (j_inc _) rfl rfl ?_
            refine v_goto (pc := 68) (tgt := 27) F dX9_back_68 (by decide) ?_
            refine v_drop (i := 2) (lo' := [some (.ref _), some (.int _), _]) rfl ?_
            exact ih (by omega) _ (BQ_y hI (by omega) hbk hr5)
  · skip
    refine v_aload_n (pc := 7) (i := 0) F dX9_back_7 rfl rfl ?_
    refine v_bipush (pc := 8) (v := (-5)) F dX9_back_8 (by decide) ?_
    refine v_callVI (pc := 10) (As := [_]) (rest := []) (c := 9) F mX9_refuse kX9_79 im_X9_refuse se_X9_refuse dX9_back_10 rfl rfl (by decide) (c_X9_refuse (-5) 5 (by decide) (by decide) (by decide) _) (by decide) rfl rfl (Nat.le_of_ble_eq_true rfl) lx0 (fun x12 μ12 hp12 => ?_)
    rw [hp12.1, hp12.2]
    refine v_ireturn (pc := 13) F dX9_back_13 (rfl) ?_
    simp only [s_back, rj, hnn, h21, ↓reduceIte]
    exact ⟨(by first | exact trivial | exact rfl), Rel.rj hM hR (by decide)⟩
