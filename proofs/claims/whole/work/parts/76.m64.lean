/-! the class: what is read -/
theorem w7 {P : Nat → Bool} {r : Int32} (h : (∃ j, j < 6 ∧ r = nI j ∧ P j = true ∧ ∀ i, i < j → ¬ P i = true) ∨ (r = -1 ∧ ∀ i, i < 6 → ¬ P i = true)) : (r = nI 0 ∧ P 0 = true) ∨ (r = nI 1 ∧ ¬ P 0 = true ∧ P 1 = true) ∨ (r = nI 2 ∧ ¬ P 0 = true ∧ ¬ P 1 = true ∧ P 2 = true) ∨ (r = nI 3 ∧ ¬ P 0 = true ∧ ¬ P 1 = true ∧ ¬ P 2 = true ∧ P 3 = true) ∨ (r = nI 4 ∧ ¬ P 0 = true ∧ ¬ P 1 = true ∧ ¬ P 2 = true ∧ ¬ P 3 = true ∧ P 4 = true) ∨ (r = nI 5 ∧ ¬ P 0 = true ∧ ¬ P 1 = true ∧ ¬ P 2 = true ∧ ¬ P 3 = true ∧ ¬ P 4 = true ∧ P 5 = true) ∨ (r = -1 ∧ ¬ P 0 = true ∧ ¬ P 1 = true ∧ ¬ P 2 = true ∧ ¬ P 3 = true ∧ ¬ P 4 = true ∧ ¬ P 5 = true) := by
  rcases h with ⟨j, hj, h1, h2, h3⟩ | ⟨h1, h3⟩
  · rcases (show j = 0 ∨ j = 1 ∨ j = 2 ∨ j = 3 ∨ j = 4 ∨ j = 5 by omega) with rfl | rfl | rfl | rfl | rfl | rfl
    · exact Or.inl ⟨h1, h2⟩
    · exact Or.inr (Or.inl ⟨h1, h3 0 (by omega), h2⟩)
    · exact Or.inr (Or.inr (Or.inl ⟨h1, h3 0 (by omega), h3 1 (by omega), h2⟩))
    · exact Or.inr (Or.inr (Or.inr (Or.inl ⟨h1, h3 0 (by omega), h3 1 (by omega), h3 2 (by omega), h2⟩)))
    · exact Or.inr (Or.inr (Or.inr (Or.inr (Or.inl ⟨h1, h3 0 (by omega), h3 1 (by omega), h3 2 (by omega), h3 3 (by omega), h2⟩))))
    · exact Or.inr (Or.inr (Or.inr (Or.inr (Or.inr (Or.inl ⟨h1, h3 0 (by omega), h3 1 (by omega), h3 2 (by omega), h3 3 (by omega), h3 4 (by omega), h2⟩)))))
  · exact Or.inr (Or.inr (Or.inr (Or.inr (Or.inr (Or.inr ⟨h1, h3 0 (by omega), h3 1 (by omega), h3 2 (by omega), h3 3 (by omega), h3 4 (by omega), h3 5 (by omega)⟩)))))
theorem wd_T {tp : Nat → Int32} {t a j : Nat} (hj : j < 6) (h : wdB tp (tkF tp t a) (scan isL tp t (tkF tp t a)) j = true) (hat : a ≤ t) : tkT tp t a = scan isL tp t (tkF tp t a) ∧ tkF tp t a < scan isL tp t (tkF tp t a) := by
  have hl : 0 < j_len.getD j 0 := by
    have : ∀ j, j < 6 → 0 < j_len.getD j 0 := by decide +kernel
    exact this j hj
  have h1 := (wdB_iff.mp h).1
  have hf := tkF_le (t := tp) hat
  have h2 : tkF tp t a < scan isL tp t (tkF tp t a) := by omega
  have h3 : isL (tp (tkF tp t a)) = true := by
    by_cases c : isL (tp (tkF tp t a)) = true
    · exact c
    · rw [scan_f c] at h2; omega
  have h4 : ¬ tkF tp t a = t := fun z => by
    rw [z, scan_n (Nat.le_refl _)] at h2; omega
  refine ⟨?_, h2⟩
  rw [scan_s (by omega) h3]
  unfold tkT
  rw [if_neg h4, if_pos h3]
theorem SQ_T {x b n : Nat} {w : Nat → Nat → Int32} {μ m : j_M} (hxb : x + 2 ≤ b ∨ b + 21 ≤ x) (hS : SQ μ b w n) (hF : Fm (PTP x) μ m) : SQ m b w n := SQ_F hS hF (fun c j z => by omega)
theorem RD.tr {o : Sum Nat (Nat × j_M)} {x b : Nat} {μ m μ2 : j_M} (h : Fm (PTP x) μ m) (h2 : RD o x b m μ2) : RD o x b μ μ2 := ⟨(h.mono (fun c j z => Or.inl z)).tr h2.1, h2.2⟩
theorem st_pos {tp : Nat → Int32} {t a : Nat} {ν : j_M} {q : Nat × j_M} (hn : nn ν ≤ 8) (hat : a ≤ t) (h : stS tp t (tkK tp t a) (tkF tp t a) (tkT tp t a) ν = .inr q) : a < q.1 ∧ q.1 ≤ t ∧ SE ν q.2 := by
  have hT := tkT_le (t := tp) hat
  have hf := tkF_le (t := tp) hat
  obtain ⟨h1, h2, h3⟩ := stS_b hn hT.2 h
  refine ⟨?_, h2, h3⟩
  have key : ∀ j, j < 6 → isW tp (tkF tp t a) (tkT tp t a) (tkK tp t a) j = true → a < q.1 := fun j hj hw => by
    rw [isW_w hj] at hw
    obtain ⟨e1, e2⟩ := wd_T hj hw hat
    omega
  by_cases w0 : isW tp (tkF tp t a) (tkT tp t a) (tkK tp t a) 0 = true
  · exact key 0 (by omega) w0
  by_cases w1 : isW tp (tkF tp t a) (tkT tp t a) (tkK tp t a) 1 = true
  · exact key 1 (by omega) w1
  by_cases w2 : isW tp (tkF tp t a) (tkT tp t a) (tkK tp t a) 2 = true
  · exact key 2 (by omega) w2
  by_cases w3 : isW tp (tkF tp t a) (tkT tp t a) (tkK tp t a) 3 = true
  · exact key 3 (by omega) w3
  by_cases w4 : isW tp (tkF tp t a) (tkT tp t a) (tkK tp t a) 4 = true
  · exact key 4 (by omega) w4
  by_cases w5 : isW tp (tkF tp t a) (tkT tp t a) (tkK tp t a) 5 = true
  · exact key 5 (by omega) w5
  unfold stS at h
  rw [if_neg w0, if_neg w1, if_neg w2, if_neg w3, if_neg w4, if_neg w5] at h
  cases h
theorem SE_TH {μ m : j_M} (h : SE μ m) (hT : ∀ p, p < 12 → TH (μ.1 1 p)) : ∀ p, p < 12 → TH (m.1 1 p) := by
  intro p hp
  rcases h with ⟨x, v, h1, h2, rfl⟩ | ⟨x, h1, rfl⟩ | ⟨h8, x, v, g, h1, h2, h3, rfl⟩ | ⟨x, v, h1, h2, rfl⟩ | ⟨x, v, h1, h2, rfl⟩ | ⟨x, v, h1, h2, rfl⟩
  · by_cases c : p = x
    · subst c; rw [j_pI_at]; exact Or.inr ⟨v, h2, rfl⟩
    · rw [j_pI_off (by omega)]; exact hT p hp
  · by_cases c : p = x
    · subst c; rw [j_pI_at]; exact Or.inl rfl
    · rw [j_pI_off (by omega)]; exact hT p hp
  · rw [nl_W, nlW_o (by omega) (by omega) (by omega)]; exact hT p hp
  · rw [j_pI_off (by omega)]; exact hT p hp
  · rw [j_pI_off (by omega)]; exact hT p hp
  · rw [j_pI_off (by omega)]; exact hT p hp

set_option maxRecDepth 100000 in
theorem c_X7_readStatement (x : Nat) (hx : j_ob ΛX x 7) (b : Nat) (hb4 : j_ob ΛX b 4) (hxb : x + 2 ≤ b ∨ b + 21 ≤ x) (tp : Nat → Int32) (t a : Nat) (μ ν : j_M) (hb_0 : ∀ j, j < t → μ.1 (x + 1) j = tp j) (ht_0 : μ.1 x 1 = nI t) (ht2 : t ≤ 250) (ha_0 : μ.1 x 2 = nI a) (hat_0 : a ≤ t) (hfl_0 : μ.1 x 3 = -1) (hS : SQ μ b ν.1 (nn ν)) (hTH : ∀ p, p < 12 → TH (ν.1 1 p))  : Ct yX7_readStatement cX7_readStatement 3 none 6 ΛX [.ref x, .ref b] μ (pV fun μ2 => RD (stS tp t (tkK tp t a) (tkF tp t a) (tkT tp t a) ν) x b μ μ2) := by
  refine Ct.go (lo := [some (.ref x), some (.ref b), none]) (by decide) (Nat.le_of_ble_eq_true rfl) rfl rfl (fun X F => ?_)
  have F : Fx X cX7_readStatement RX7 6 none ΛX := F
  have hn8 := hS.2
  refine v_aload_n (pc := 0) (i := 0) F dX7_readStatement_0 rfl rfl ?_
  refine v_callVV (pc := 1) (As := []) (rest := []) (c := 7) F mX7_skipBlanks kX7_33 im_X7_skipBlanks se_X7_skipBlanks dX7_readStatement_1 rfl rfl (by decide) (c_X7_skipBlanks x hx tp t a _ hb_0 ht_0 ht2 ha_0 hat_0) (by decide) rfl rfl (Nat.le_of_ble_eq_true rfl) hx (fun μ1 hp1 => ?_)
  have hsk := hp1
  have hfle := tkF_le (t := tp) hat_0
  refine v_aload_n (pc := 4) (i := 0) F dX7_readStatement_4 rfl rfl ?_
  refine v_getI (pc := 5) F fX7_22 dX7_readStatement_5 rfl hx ?_
  refine v_topE (y := nI (tkF tp t a)) (hsk.2) ?_
  refine v_istore_n (pc := 8) (lo' := [some (.ref _), some (.ref _), some (.int _)]) F dX7_readStatement_8 rfl rfl (Nat.le_of_ble_eq_true rfl) rfl ?_
  refine v_aload_n (pc := 9) (i := 0) F dX7_readStatement_9 rfl rfl ?_
  refine v_callVI (pc := 10) (As := []) (rest := []) (c := 7) F mX7_readWord kX7_36 im_X7_readWord se_X7_readWord dX7_readStatement_10 rfl rfl (by decide) (c_X7_readWord x hx tp t (tkF tp t a) _ (fun j hj => (hsk.1.1 _ _ (by omega)).trans (hb_0 j hj)) ((hsk.1.1 _ _ (by omega)).trans ht_0) ht2 hsk.2 hfle.2) (by decide) rfl rfl (Nat.le_of_ble_eq_true rfl) hx (fun x2 μ2 hp2 => ?_)
  obtain ⟨hw1, hat2, hor⟩ := hp2
  have hF_1 : Fm (PTP x) μ μ2 := (hsk.1.mono (fun c j z => by omega)).tr (hw1.mono (fun c j z => by omega))
  have hb_1 : ∀ j, j < t → (μ2).1 (x + 1) j = tp j := fun j hj => (hF_1.1 _ _ (by omega)).trans (hb_0 j hj)
  have ht_1 : (μ2).1 x 1 = nI t := (hF_1.1 _ _ (by omega)).trans ht_0
  have hfl_1 : (μ2).1 x 3 = -1 := (hw1.1 _ _ (by omega)).trans ((hsk.1.1 _ _ (by omega)).trans hfl_0)
  have hS_1 : SQ μ2 b ν.1 (nn ν) := SQ_T hxb hS hF_1
  have hle2 : scan isL tp t (tkF tp t a) ≤ t := scan_le hfle.2
  rcases w7 hor with ⟨hr, w0⟩ | ⟨hr, w0, w1⟩ | ⟨hr, w0, w1, w2⟩ | ⟨hr, w0, w1, w2, w3⟩ | ⟨hr, w0, w1, w2, w3, w4⟩ | ⟨hr, w0, w1, w2, w3, w4, w5⟩ | ⟨hr, w0, w1, w2, w3, w4, w5⟩
  · skip
    obtain ⟨hTe, hTl⟩ := wd_T (by decide) w0 hat_0
    have v0 : isW tp (tkF tp t a) (tkT tp t a) (tkK tp t a) 0 = true := by rw [isW_w (by decide)]; exact w0
    rw [hr]
    refine v_tin (pc := 13) (tgt := 52) F dX7_readStatement_13 (by decide) (by decide) (by rfl) (by decide) ?_
    refine v_aload_n (pc := 52) (i := 0) F dX7_readStatement_52 rfl rfl ?_
    refine v_aload_n (pc := 53) (i := 1) F dX7_readStatement_53 rfl rfl ?_
    refine v_callVV (pc := 54) (As := [_]) (rest := []) (c := 7) F mX7_readPlace kX7_40 im_X7_readPlace se_X7_readPlace dX7_readStatement_54 rfl rfl (by decide) (c_X7_readPlace x hx b hb4 hxb tp t (scan isL tp t (tkF tp t a)) μ2 ν hb_1 ht_1 ht2 hat2 hle2 hfl_1 hS_1 hTH) (by decide) rfl rfl (Nat.le_of_ble_eq_true rfl) hx (fun μ3 hp3 => ?_)
    skip
    refine v_goto (pc := 57) (tgt := 106) F dX7_readStatement_57 (by decide) ?_
    refine v_return (pc := 106) F dX7_readStatement_106 ?_
    unfold stS
    rw [if_pos v0, hTe]
    exact RD.tr hF_1 hp3
  · skip
    have v0 : ¬ isW tp (tkF tp t a) (tkT tp t a) (tkK tp t a) 0 = true := by rw [isW_w (by decide)]; exact w0
    obtain ⟨hTe, hTl⟩ := wd_T (by decide) w1 hat_0
    have v1 : isW tp (tkF tp t a) (tkT tp t a) (tkK tp t a) 1 = true := by rw [isW_w (by decide)]; exact w1
    rw [hr]
    refine v_tin (pc := 13) (tgt := 60) F dX7_readStatement_13 (by decide) (by decide) (by rfl) (by decide) ?_
    refine v_aload_n (pc := 60) (i := 0) F dX7_readStatement_60 rfl rfl ?_
    refine v_aload_n (pc := 61) (i := 1) F dX7_readStatement_61 rfl rfl ?_
    refine v_callVV (pc := 62) (As := [_]) (rest := []) (c := 7) F mX7_readClear kX7_43 im_X7_readClear se_X7_readClear dX7_readStatement_62 rfl rfl (by decide) (c_X7_readClear x hx b hb4 hxb tp t (scan isL tp t (tkF tp t a)) μ2 ν hb_1 ht_1 ht2 hat2 hle2 hfl_1 hS_1 hTH) (by decide) rfl rfl (Nat.le_of_ble_eq_true rfl) hx (fun μ4 hp4 => ?_)
    skip
    refine v_goto (pc := 65) (tgt := 106) F dX7_readStatement_65 (by decide) ?_
    refine v_return (pc := 106) F dX7_readStatement_106 ?_
    unfold stS
    rw [if_neg v0, if_pos v1, hTe]
    exact RD.tr hF_1 hp4
  · skip
    have v0 : ¬ isW tp (tkF tp t a) (tkT tp t a) (tkK tp t a) 0 = true := by rw [isW_w (by decide)]; exact w0
    have v1 : ¬ isW tp (tkF tp t a) (tkT tp t a) (tkK tp t a) 1 = true := by rw [isW_w (by decide)]; exact w1
    obtain ⟨hTe, hTl⟩ := wd_T (by decide) w2 hat_0
    have v2 : isW tp (tkF tp t a) (tkT tp t a) (tkK tp t a) 2 = true := by rw [isW_w (by decide)]; exact w2
    rw [hr]
    refine v_tin (pc := 13) (tgt := 68) F dX7_readStatement_13 (by decide) (by decide) (by rfl) (by decide) ?_
    refine v_aload_n (pc := 68) (i := 0) F dX7_readStatement_68 rfl rfl ?_
    refine v_aload_n (pc := 69) (i := 1) F dX7_readStatement_69 rfl rfl ?_
    refine v_iload_n (pc := 70) (i := 2) F dX7_readStatement_70 rfl rfl ?_
    refine v_callVV (pc := 71) (As := [_, _]) (rest := []) (c := 7) F mX7_readLooker kX7_46 im_X7_readLooker se_X7_readLooker dX7_readStatement_71 rfl rfl (by decide) (c_X7_readLooker x hx b hb4 hxb tp t (scan isL tp t (tkF tp t a)) μ2 ν hb_1 ht_1 ht2 hat2 hle2 hfl_1 hS_1 hTH (tkF tp t a)) (by decide) rfl rfl (Nat.le_of_ble_eq_true rfl) hx (fun μ5 hp5 => ?_)
    skip
    refine v_goto (pc := 74) (tgt := 106) F dX7_readStatement_74 (by decide) ?_
    refine v_return (pc := 106) F dX7_readStatement_106 ?_
    unfold stS
    rw [if_neg v0, if_neg v1, if_pos v2, hTe]
    exact RD.tr hF_1 hp5
  · skip
    have v0 : ¬ isW tp (tkF tp t a) (tkT tp t a) (tkK tp t a) 0 = true := by rw [isW_w (by decide)]; exact w0
    have v1 : ¬ isW tp (tkF tp t a) (tkT tp t a) (tkK tp t a) 1 = true := by rw [isW_w (by decide)]; exact w1
    have v2 : ¬ isW tp (tkF tp t a) (tkT tp t a) (tkK tp t a) 2 = true := by rw [isW_w (by decide)]; exact w2
    obtain ⟨hTe, hTl⟩ := wd_T (by decide) w3 hat_0
    have v3 : isW tp (tkF tp t a) (tkT tp t a) (tkK tp t a) 3 = true := by rw [isW_w (by decide)]; exact w3
    rw [hr]
    refine v_tin (pc := 13) (tgt := 77) F dX7_readStatement_13 (by decide) (by decide) (by rfl) (by decide) ?_
    refine v_aload_n (pc := 77) (i := 0) F dX7_readStatement_77 rfl rfl ?_
    refine v_aload_n (pc := 78) (i := 1) F dX7_readStatement_78 rfl rfl ?_
    refine v_callVV (pc := 79) (As := [_]) (rest := []) (c := 7) F mX7_readLikes kX7_50 im_X7_readLikes se_X7_readLikes dX7_readStatement_79 rfl rfl (by decide) (c_X7_readLikes x hx b hb4 hxb tp t (scan isL tp t (tkF tp t a)) μ2 ν hb_1 ht_1 ht2 hat2 hle2 hfl_1 hS_1 hTH) (by decide) rfl rfl (Nat.le_of_ble_eq_true rfl) hx (fun μ6 hp6 => ?_)
    skip
    refine v_goto (pc := 82) (tgt := 106) F dX7_readStatement_82 (by decide) ?_
    refine v_return (pc := 106) F dX7_readStatement_106 ?_
    unfold stS
    rw [if_neg v0, if_neg v1, if_neg v2, if_pos v3, hTe]
    exact RD.tr hF_1 hp6
  · skip
    have v0 : ¬ isW tp (tkF tp t a) (tkT tp t a) (tkK tp t a) 0 = true := by rw [isW_w (by decide)]; exact w0
    have v1 : ¬ isW tp (tkF tp t a) (tkT tp t a) (tkK tp t a) 1 = true := by rw [isW_w (by decide)]; exact w1
    have v2 : ¬ isW tp (tkF tp t a) (tkT tp t a) (tkK tp t a) 2 = true := by rw [isW_w (by decide)]; exact w2
    have v3 : ¬ isW tp (tkF tp t a) (tkT tp t a) (tkK tp t a) 3 = true := by rw [isW_w (by decide)]; exact w3
    obtain ⟨hTe, hTl⟩ := wd_T (by decide) w4 hat_0
    have v4 : isW tp (tkF tp t a) (tkT tp t a) (tkK tp t a) 4 = true := by rw [isW_w (by decide)]; exact w4
    rw [hr]
    refine v_tin (pc := 13) (tgt := 85) F dX7_readStatement_13 (by decide) (by decide) (by rfl) (by decide) ?_
    refine v_aload_n (pc := 85) (i := 0) F dX7_readStatement_85 rfl rfl ?_
    refine v_aload_n (pc := 86) (i := 1) F dX7_readStatement_86 rfl rfl ?_
    refine v_callVV (pc := 87) (As := [_]) (rest := []) (c := 7) F mX7_readComes kX7_53 im_X7_readComes se_X7_readComes dX7_readStatement_87 rfl rfl (by decide) (c_X7_readComes x hx b hb4 hxb tp t (scan isL tp t (tkF tp t a)) μ2 ν hb_1 ht_1 ht2 hat2 hle2 hfl_1 hS_1 hTH) (by decide) rfl rfl (Nat.le_of_ble_eq_true rfl) hx (fun μ7 hp7 => ?_)
    skip
    refine v_goto (pc := 90) (tgt := 106) F dX7_readStatement_90 (by decide) ?_
    refine v_return (pc := 106) F dX7_readStatement_106 ?_
    unfold stS
    rw [if_neg v0, if_neg v1, if_neg v2, if_neg v3, if_pos v4, hTe]
    exact RD.tr hF_1 hp7
  · skip
    have v0 : ¬ isW tp (tkF tp t a) (tkT tp t a) (tkK tp t a) 0 = true := by rw [isW_w (by decide)]; exact w0
    have v1 : ¬ isW tp (tkF tp t a) (tkT tp t a) (tkK tp t a) 1 = true := by rw [isW_w (by decide)]; exact w1
    have v2 : ¬ isW tp (tkF tp t a) (tkT tp t a) (tkK tp t a) 2 = true := by rw [isW_w (by decide)]; exact w2
    have v3 : ¬ isW tp (tkF tp t a) (tkT tp t a) (tkK tp t a) 3 = true := by rw [isW_w (by decide)]; exact w3
    have v4 : ¬ isW tp (tkF tp t a) (tkT tp t a) (tkK tp t a) 4 = true := by rw [isW_w (by decide)]; exact w4
    obtain ⟨hTe, hTl⟩ := wd_T (by decide) w5 hat_0
    have v5 : isW tp (tkF tp t a) (tkT tp t a) (tkK tp t a) 5 = true := by rw [isW_w (by decide)]; exact w5
    rw [hr]
    refine v_tin (pc := 13) (tgt := 93) F dX7_readStatement_13 (by decide) (by decide) (by rfl) (by decide) ?_
    refine v_aload_n (pc := 93) (i := 0) F dX7_readStatement_93 rfl rfl ?_
    refine v_aload_n (pc := 94) (i := 1) F dX7_readStatement_94 rfl rfl ?_
    refine v_callVV (pc := 95) (As := [_]) (rest := []) (c := 7) F mX7_readShine kX7_56 im_X7_readShine se_X7_readShine dX7_readStatement_95 rfl rfl (by decide) (c_X7_readShine x hx b hb4 hxb tp t (scan isL tp t (tkF tp t a)) μ2 ν hb_1 ht_1 ht2 hat2 hle2 hfl_1 hS_1 hTH) (by decide) rfl rfl (Nat.le_of_ble_eq_true rfl) hx (fun μ8 hp8 => ?_)
    skip
    refine v_goto (pc := 98) (tgt := 106) F dX7_readStatement_98 (by decide) ?_
    refine v_return (pc := 106) F dX7_readStatement_106 ?_
    unfold stS
    rw [if_neg v0, if_neg v1, if_neg v2, if_neg v3, if_neg v4, if_pos v5, hTe]
    exact RD.tr hF_1 hp8
  · skip
    have v0 : ¬ isW tp (tkF tp t a) (tkT tp t a) (tkK tp t a) 0 = true := by rw [isW_w (by decide)]; exact w0
    have v1 : ¬ isW tp (tkF tp t a) (tkT tp t a) (tkK tp t a) 1 = true := by rw [isW_w (by decide)]; exact w1
    have v2 : ¬ isW tp (tkF tp t a) (tkT tp t a) (tkK tp t a) 2 = true := by rw [isW_w (by decide)]; exact w2
    have v3 : ¬ isW tp (tkF tp t a) (tkT tp t a) (tkK tp t a) 3 = true := by rw [isW_w (by decide)]; exact w3
    have v4 : ¬ isW tp (tkF tp t a) (tkT tp t a) (tkK tp t a) 4 = true := by rw [isW_w (by decide)]; exact w4
    have v5 : ¬ isW tp (tkF tp t a) (tkT tp t a) (tkK tp t a) 5 = true := by rw [isW_w (by decide)]; exact w5
    rw [hr]
    refine v_tout (pc := 13) (tgt := 101) F dX7_readStatement_13 (by decide) (by decide) ?_
    refine v_aload_n (pc := 101) (i := 0) F dX7_readStatement_101 rfl rfl ?_
    refine v_iload_n (pc := 102) (i := 2) F dX7_readStatement_102 rfl rfl ?_
    refine v_put (pc := 103) F fX7_15 dX7_readStatement_103 rfl rfl rfl hx ?_
    refine v_return (pc := 106) F dX7_readStatement_106 ?_
    unfold stS
    rw [if_neg v0, if_neg v1, if_neg v2, if_neg v3, if_neg v4, if_neg v5]
    exact RD.no j_pI_at (hF_1.pI (by omega))
