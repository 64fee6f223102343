/-! the class: evenings in truth -/
theorem WI.up {w w' : Nat → Nat → Int32} {n : Nat} (h : WI w n) (h0 : w' 0 1 = w 0 1) (h1 : ∀ p, p < 12 → TH (w' 1 p)) (h2 : ∀ l, l < n → w' 2 l = w 2 l) (h3 : ∀ l, l < n → w' 3 l = w 3 l) (h7 : ∀ l, l < n → TH (w' 7 l)) : WI w' n := ⟨h0.trans h.1, h.2.1, h1, fun l hl => ⟨by rw [h2 l hl]; exact h.k hl, by rw [h3 l hl]; exact h.a hl, h7 l hl⟩⟩
theorem goL_7 {w : Nat → Nat → Int32} {n : Nat} {t : Nat → Int32} {Tf : Nat → List Nat} {m : j_M} (ht : ∀ p, p < 12 → TH (t p)) (hT : ∀ l p, p ∈ Tf l → p < 12) (h : ∀ l, l < n → TH (m.1 7 l)) : ∀ k l, l < n → TH ((goL t Tf m k).1 7 l) := by
  intro k
  induction k with
  | zero => exact h
  | succ k ih =>
    intro l hl
    rw [hoM_12 (hT k)]
    unfold hoM
    rcases e : (Tf k).head? with _ | p0
    · simp only []
      rw [gnP_c (by decide)]; exact ih l hl
    · simp only []
      have h12 := hT k p0 (hd_mem e)
      rw [if_pos h12]
      by_cases q : l = k
      · subst q; rw [j_pI_at]; exact ht p0 h12
      · rw [j_pI_off (by omega), gnP_c (by decide)]; exact ih l hl
theorem tE_12 {w : Nat → Nat → Int32} {n l p : Nat} {set : Int32} (h : p ∈ tE w n set l) : p < 12 := goT_lt h
theorem WI_goL {ν : j_M} {n : Nat} {set : Int32} (hW : WI ν.1 n) (k : Nat) : WI (goL (ν.1 1) (tE ν.1 n set) ν k).1 n := hW.up (goL_c (by decide) (by decide) k) (fun p hp => by rw [goL_c (by decide) (by decide)]; exact hW.t p hp) (fun l _ => goL_c (by decide) (by decide) k) (fun l _ => goL_c (by decide) (by decide) k) (goL_7 (w := ν.1) hW.t (fun l p hp => tE_12 hp) (fun l hl => hW.sh hl) k)
theorem WI_goes {ν : j_M} {n : Nat} {set : Int32} (hW : WI ν.1 n) (hn : nn ν = n) : WI (s_goes set ν).2.1 n := by
  unfold s_goes
  rw [hn]
  have h1 := WI_goL (set := set) hW n
  refine h1.up ?_ (fun p hp => ?_) (fun l _ => ?_) (fun l _ => ?_) (fun l hl => ?_)
  · rw [j_pI_off (by omega), goF_o (by omega)]
  · rw [j_pI_off (by omega)]
    show TH (if 1 = 1 ∧ p < 12 then uE ν.1 n set p else _)
    rw [if_pos ⟨rfl, hp⟩]
    exact goU_TH (hW.t p hp)
  · rw [j_pI_off (by omega), goF_o (by omega)]
  · rw [j_pI_off (by omega), goF_o (by omega)]
  · rw [j_pI_off (by omega), goF_o (by omega)]; exact h1.sh hl
theorem SC.f6 {μ : j_M} {b n : Nat} {w : Nat → Nat → Int32} {v : Int32} (hs : SC μ b w n) (hn : n ≤ 8) : SC (j_pI μ b 6 v) b (fun c i => if c = 0 ∧ i = 9 then v else w c i) n := by
  have e : ∀ c j, ¬ (c = b ∧ j = 6) → (j_pI μ b 6 v).1 c j = μ.1 c j := fun c i q => j_pI_off q
  have f : ∀ c i, ¬ (c = 0 ∧ i = 9) → (fun c i => if c = 0 ∧ i = 9 then v else w c i) c i = w c i := fun c i q => if_neg q
  have ft : (fun c i => if c = 0 ∧ i = 9 then v else w c i) 0 9 = v := if_pos ⟨rfl, rfl⟩
  generalize (fun c i => if c = 0 ∧ i = 9 then v else w c i) = w' at f ft ⊢
  exact ⟨fun p hp => (e _ _ (by omega)).trans ((hs.srt p hp).trans (f _ _ (by omega)).symm), fun s hsl => (e _ _ (by omega)).trans ((hs.plw s hsl).trans (pwB_congr (fun p _ => f _ _ (by omega)) s).symm), fun i hi => (e _ _ (by omega)).trans ((hs.ord i hi).trans (by unfold OA; rw [show w' 4 = w 4 from funext fun i => f _ _ (by omega)])), fun i hi => ((hs.lk i hi).of (m := j_pI μ b 6 v) (fun c y h1 h2 => e _ _ (by omega))).w (fun c h1 h2 => f _ _ (by omega)) (fun s hsl => f _ _ (by omega)), (e _ _ (by omega)).trans (hs.fil.trans (lfB_congr (fun p _ => f _ _ (by omega))).symm), (e _ _ (by omega)).trans hs.cnt, j_pI_at.trans ft.symm, (e _ _ (by omega)).trans (hs.sed.trans (f _ _ (by omega)).symm)⟩
theorem SC.f7 {μ : j_M} {b n : Nat} {w : Nat → Nat → Int32} {v : Int32} (hs : SC μ b w n) (hn : n ≤ 8) : SC (j_pI μ b 7 v) b (fun c i => if c = 0 ∧ i = 10 then v else w c i) n := by
  have e : ∀ c j, ¬ (c = b ∧ j = 7) → (j_pI μ b 7 v).1 c j = μ.1 c j := fun c i q => j_pI_off q
  have f : ∀ c i, ¬ (c = 0 ∧ i = 10) → (fun c i => if c = 0 ∧ i = 10 then v else w c i) c i = w c i := fun c i q => if_neg q
  have ft : (fun c i => if c = 0 ∧ i = 10 then v else w c i) 0 10 = v := if_pos ⟨rfl, rfl⟩
  generalize (fun c i => if c = 0 ∧ i = 10 then v else w c i) = w' at f ft ⊢
  exact ⟨fun p hp => (e _ _ (by omega)).trans ((hs.srt p hp).trans (f _ _ (by omega)).symm), fun s hsl => (e _ _ (by omega)).trans ((hs.plw s hsl).trans (pwB_congr (fun p _ => f _ _ (by omega)) s).symm), fun i hi => (e _ _ (by omega)).trans ((hs.ord i hi).trans (by unfold OA; rw [show w' 4 = w 4 from funext fun i => f _ _ (by omega)])), fun i hi => ((hs.lk i hi).of (m := j_pI μ b 7 v) (fun c y h1 h2 => e _ _ (by omega))).w (fun c h1 h2 => f _ _ (by omega)) (fun s hsl => f _ _ (by omega)), (e _ _ (by omega)).trans (hs.fil.trans (lfB_congr (fun p _ => f _ _ (by omega))).symm), (e _ _ (by omega)).trans hs.cnt, (e _ _ (by omega)).trans (hs.evs.trans (f _ _ (by omega)).symm), j_pI_at.trans ft.symm⟩
abbrev PCE (b e c j : Nat) : Prop := PC b c j ∨ PE e c j
theorem goF_y {w1 u : Nat → Int32} {m : j_M} {k : Nat} (h : u k = -1) : (goF u m (k + 1)).1 = wth (goF u m k).1 k (-1) := by rw [goF_s, h]; rfl
theorem goF_n {u : Nat → Int32} {m : j_M} {k : Nat} (h : u k = m.1 1 k) : (goF u m (k + 1)).1 = (goF u m k).1 := by
  rw [goF_s]
  exact j_pI_same ((goF_o (by omega)).trans h.symm)
theorem uE_1 {w : Nat → Nat → Int32} {n p : Nat} {set : Int32} (hp : p < 12) : uE w n set p = w 1 p ∨ uE w n set p = -1 := (UU.go (O := OO w n set) UU.self) p hp

set_option maxRecDepth 100000 in
theorem c_X2_runInTruth (e : Nat) (he : j_ob ΛX e 2) (b : Nat) (hb : j_ob ΛX b 4) (n : Nat) (ν μ : j_M) (hS : SQ μ b ν.1 n) (hW : WI ν.1 n) (hnn : nn ν = n) (hne : e + 2 ≤ b ∨ b + 21 ≤ e) (set : Int32) : Ct yX2_runInTruth cX2_runInTruth 6 (some .int) 5 ΛX [.ref e, .ref b, .int set] μ (pI fun r μ2 => r = (s_goes set ν).1 ∧ SQ μ2 b (s_goes set ν).2.1 n ∧ Fm (PCE b e) μ μ2) := by
  refine Ct.go (lo := [some (.ref e), some (.ref b), some (.int set), none, none, none]) (by decide) (Nat.le_of_ble_eq_true rfl) rfl rfl (fun X F => ?_)
  have F : Fx X cX2_runInTruth RX2 5 (some .int) ΛX := F
  refine v_aload_n (pc := 0) (i := 1) F dX2_runInTruth_0 rfl rfl ?_
  refine v_getI (pc := 1) F fX2_49 dX2_runInTruth_1 rfl hb ?_
  refine v_topE (y := (lfB (ν.1 1))) (hS.1.fil) ?_
  refine v_istore_n (pc := 4) (lo' := [some (.ref _), some (.ref _), some (.int _), some (.int _), _, _]) F dX2_runInTruth_4 rfl rfl (Nat.le_of_ble_eq_true rfl) rfl ?_
  refine v_aload_n (pc := 5) (i := 0) F dX2_runInTruth_5 rfl rfl ?_
  refine v_aload_n (pc := 6) (i := 1) F dX2_runInTruth_6 rfl rfl ?_
  refine v_iload_n (pc := 7) (i := 2) F dX2_runInTruth_7 rfl rfl ?_
  refine v_iload_n (pc := 8) (i := 3) F dX2_runInTruth_8 rfl rfl ?_
  refine v_callVV (pc := 9) (As := [_, _, _]) (rest := []) (c := 2) F mX2_run kX2_52 im_X2_run se_X2_run dX2_runInTruth_9 rfl rfl (by decide) (c_X2_run e he b hb n ν.1 _ (hS) hW set (ν.1 1) UU.self (by omega)) (by decide) rfl rfl (Nat.le_of_ble_eq_true rfl) he (fun μ1 hp1 => ?_)
  skip
  refine v_iconst (pc := 12) (v := nI 0) F dX2_runInTruth_12 (by decide) ?_
  refine v_istore (pc := 13) (lo' := [some (.ref _), some (.ref _), some (.int _), some (.int _), some (.int _), _]) F dX2_runInTruth_13 rfl (Nat.le_of_ble_eq_true rfl) rfl ?_
  have hn8 := hS.2
  have hTex : ∀ l, l < n → ∃ u, UU (goL (ν.1 1) (tE ν.1 n set) ν l).1 u ∧ tE ν.1 n set l = tk ((goL (ν.1 1) (tE ν.1 n set) ν l).1 2 l) ((goL (ν.1 1) (tE ν.1 n set) ν l).1 3 l) ((goL (ν.1 1) (tE ν.1 n set) ν l).1 5 l) u := fun l hl => by
    obtain ⟨u, h1, h2⟩ := tE_ex (set := set) (n := n) (hW.own l hl)
    refine ⟨u, fun p hp => ?_, ?_⟩
    · rw [goL_c (by decide) (by decide)]; exact h1 p hp
    · rw [goL_c (by decide) (by decide), goL_c (by decide) (by decide), goL_c (by decide) (by decide)]; exact h2
  have hTsx : ∀ l p, p ∈ tE ν.1 n set l → p < 12 ∧ ∃ s, s < 8 ∧ ν.1 1 p = nI s := fun l p hp => ⟨tE_12 hp, (hW.t p (tE_12 hp)).resolve_left (tE_ne (fun l hl => hW.own l hl) hp)⟩
  refine j_up n (fun k => ∀ μ' : j_M, (SQ μ' b (goL (ν.1 1) (tE ν.1 n set) ν k).1 n ∧ Fm (PC b) μ1 μ') → V X _ 15 [some (.ref e), some (.ref b), some (.int set), some (.int ((lfB (ν.1 1)))), some (.int (nI k)), none] [] μ') (fun k hk ih μ' hI => ?_) 0 (Nat.zero_le _) μ1 ⟨SQ_F hS hp1.1 (fun c j z => by omega), Fm.rf⟩
  refine v_iload (pc := 15) (i := 4) F dX2_runInTruth_15 rfl ?_
  refine v_aload_n (pc := 17) (i := 1) F dX2_runInTruth_17 rfl rfl ?_
  refine v_getI (pc := 18) F fX2_25 dX2_runInTruth_18 rfl hb ?_
  refine v_topE (y := nI n) (hI.1.1.cnt) ?_
  refine v_icmp_ge (pc := 21) (tgt := 37) F dX2_runInTruth_21 (by decide) (fun h21_2 => ?_) (fun h21_2 => ?_)
  · rw [nI_leI (by omega) (by omega)] at h21_2
    have ek : k = n := by omega
    rw [ek] at hI
    refine v_iload_n (pc := 37) (i := 3) F dX2_runInTruth_37 rfl rfl ?_
    refine v_aload_n (pc := 38) (i := 0) F dX2_runInTruth_38 rfl rfl ?_
    refine v_getI (pc := 39) F fX2_15 dX2_runInTruth_39 rfl he ?_
    refine v_topE (y := (lfB (uE ν.1 n set))) ((hI.2.1 _ _ (by omega)).trans hp1.2.1) ?_
    refine v_iconst (pc := 42) (v := (-1)) F dX2_runInTruth_42 (by decide) ?_
    refine v_ixor (pc := 43) F dX2_runInTruth_43 ?_
    refine v_iand (pc := 44) F dX2_runInTruth_44 ?_
    refine v_topE (y := (bK (gone (ν.1 1) (uE ν.1 n set)) 12)) (gone_tb) ?_
    refine v_istore (pc := 45) (lo' := [some (.ref _), some (.ref _), some (.int _), some (.int _), some (.int _), _]) F dX2_runInTruth_45 rfl (Nat.le_of_ble_eq_true rfl) rfl ?_
    refine v_iconst (pc := 47) (v := nI 0) F dX2_runInTruth_47 (by decide) ?_
    refine v_istore (pc := 48) (lo' := [some (.ref _), some (.ref _), some (.int _), some (.int _), some (.int _), some (.int _)]) F dX2_runInTruth_48 rfl (Nat.le_of_ble_eq_true rfl) rfl ?_
    refine j_up 12 (fun p => ∀ μ'' : j_M, (SQ μ'' b (goF (uE ν.1 n set) (goL (ν.1 1) (tE ν.1 n set) ν n) p).1 n ∧ Fm (PC b) μ1 μ'') → V X _ 50 [some (.ref e), some (.ref b), some (.int set), some (.int ((lfB (ν.1 1)))), some (.int ((bK (gone (ν.1 1) (uE ν.1 n set)) 12))), some (.int (nI p))] [] μ'') (fun p hp12 ih2 μ'' hJ => ?_) 0 (Nat.zero_le _) μ' ⟨by rw [goF_0]; exact hI.1, hI.2⟩
    refine v_iload (pc := 50) (i := 5) F dX2_runInTruth_50 rfl ?_
    refine v_bipush (pc := 52) (v := nI 12) F dX2_runInTruth_52 (by decide) ?_
    refine v_icmp_ge (pc := 54) (tgt := 80) F dX2_runInTruth_54 (by decide) (fun h54_3 => ?_) (fun h54_3 => ?_)
    · rw [nI_leI (by omega) (by omega)] at h54_3
      have ep : p = 12 := by omega
      rw [ep] at hJ
      refine v_aload_n (pc := 80) (i := 1) F dX2_runInTruth_80 rfl rfl ?_
      refine v_dup (pc := 81) F dX2_runInTruth_81 rfl ?_
      refine v_getI (pc := 82) F fX2_64 dX2_runInTruth_82 rfl hb ?_
      refine v_topE (y := (ν.1 0 9)) (hJ.1.1.evs.trans ((goF_o (by omega)).trans (goL_c (by decide) (by decide) n))) ?_
      refine v_iconst (pc := 85) (v := nI 1) F dX2_runInTruth_85 (by decide) ?_
      refine v_iadd (pc := 86) F dX2_runInTruth_86 ?_
      refine v_put (pc := 87) F fX2_64 dX2_runInTruth_87 rfl rfl rfl hb ?_
      refine v_iload (pc := 90) (i := 4) F dX2_runInTruth_90 rfl ?_
      refine v_callSI (pc := 92) (As := [_]) (rest := []) F mJ6_bitCount_0f7a4 kX2_67 sm_J6_bitCount_0f7a4 dX2_runInTruth_92 (c_J6_bc _ _ _) (by decide) rfl rfl (Nat.le_of_ble_eq_true rfl) (fun x4 μ4 hp4 => ?_)
      rw [hp4.1, hp4.2, gone_all hW]
      refine v_ireturn (pc := 95) F dX2_runInTruth_95 (rfl) ?_
      unfold s_goes
      rw [hnn]
      refine ⟨rfl, ⟨hJ.1.1.f6 hn8, hn8⟩, (hp1.1.mono (fun c j z => Or.inr z)).tr ((hJ.2.mono (fun c j z => Or.inl z)).pI (Or.inl (by omega)))⟩
    · rw [nI_leI (by omega) (by omega)] at h54_3
      refine v_iload (pc := 57) (i := 4) F dX2_runInTruth_57 rfl ?_
      refine v_iload (pc := 59) (i := 5) F dX2_runInTruth_59 rfl ?_
      refine v_ishr (pc := 61) F dX2_runInTruth_61 ?_
      refine v_iconst (pc := 62) (v := nI 1) F dX2_runInTruth_62 (by decide) ?_
      refine v_iand (pc := 63) F dX2_runInTruth_63 ?_
      refine v_if_eq (pc := 64) (tgt := 74) F dX2_runInTruth_64 (by decide) (fun hgo => ?_) (fun hgo => ?_)
      · rw [tb_if (by omega)] at hgo
        have hgo2 : gone (ν.1 1) (uE ν.1 n set) p = false := by
          have q := hgo
          rw [tb_bK12, decide_eq_true (show p < 12 by omega), Bool.true_and] at q
          simpa using q
        have hup : (uE ν.1 n set) p = (goL (ν.1 1) (tE ν.1 n set) ν n).1 1 p := by
          rw [goL_c (by decide) (by decide)]
          rcases uE_1 (w := ν.1) (n := n) (set := set) (show p < 12 by omega) with z | z
          · exact z
          · unfold gone at hgo2
            rw [z] at hgo2 ⊢
            simp at hgo2
            exact hgo2.symm
        refine v_iinc (pc := 74) (i := 5) (v := nI (p + 1)) (lo' := [some (.ref _), some (.ref _), some (.int _), some (.int _), some (.int _), some (.int _)]) F dX2_runInTruth_74 rfl (j_inc _) rfl rfl ?_
        refine v_goto (pc := 77) (tgt := 50) F dX2_runInTruth_77 (by decide) ?_
        exact ih2 (by omega) _ ⟨by rw [goF_n hup]; exact hJ.1, hJ.2⟩
      · rw [tb_if (by omega)] at hgo
        rw [Classical.not_not] at hgo
        have hgo2 : gone (ν.1 1) (uE ν.1 n set) p = true := by
          have q := hgo
          rw [tb_bK12, decide_eq_true (show p < 12 by omega), Bool.true_and] at q
          exact q
        have hup : (uE ν.1 n set) p = -1 := by
          unfold gone at hgo2
          simp at hgo2
          exact hgo2.2
        refine v_aload_n (pc := 67) (i := 1) F dX2_runInTruth_67 rfl rfl ?_
        refine v_iload (pc := 68) (i := 5) F dX2_runInTruth_68 rfl ?_
        refine v_iconst (pc := 70) (v := (-1)) F dX2_runInTruth_70 (by decide) ?_
        refine v_callVV (pc := 71) (As := [_, _]) (rest := []) (c := 4) F mX4_put kX2_60 im_X4_put se_X4_put dX2_runInTruth_71 rfl rfl (by decide) (c_X4_put b hb n (goF (uE ν.1 n set) (goL (ν.1 1) (tE ν.1 n set) ν n) p).1 _ hJ.1 (fun q hq => (by have := hq; unfold goF; show TH (if 1 = 1 ∧ q < p then _ else _); split; exact goU_TH (hW.t q hq); rw [goL_c (by decide) (by decide)]; exact hW.t q hq)) p (by omega) (-1) (Or.inl rfl)) (by decide) rfl rfl (Nat.le_of_ble_eq_true rfl) hb (fun μ6 hp6 => ?_)
        skip
        refine v_iinc (pc := 74) (i := 5) (v := nI (p + 1)) (lo' := [some (.ref _), some (.ref _), some (.int _), some (.int _), some (.int _), some (.int _)]) F dX2_runInTruth_74 rfl (j_inc _) rfl rfl ?_
        refine v_goto (pc := 77) (tgt := 50) F dX2_runInTruth_77 (by decide) ?_
        exact ih2 (by omega) _ ⟨by rw [goF_y (w1 := ν.1 1) hup]; exact hp6.1, hJ.2.tr hp6.2⟩
  · rw [nI_leI (by omega) (by omega)] at h21_2
    refine v_aload_n (pc := 24) (i := 0) F dX2_runInTruth_24 rfl rfl ?_
    refine v_aload_n (pc := 25) (i := 1) F dX2_runInTruth_25 rfl rfl ?_
    refine v_iload (pc := 26) (i := 4) F dX2_runInTruth_26 rfl ?_
    refine v_callVV (pc := 28) (As := [_, _]) (rest := []) (c := 2) F mX2_handOver kX2_56 im_X2_handOver se_X2_handOver dX2_runInTruth_28 rfl rfl (by decide) (c_X2_handOver e he b hb n (goL (ν.1 1) (tE ν.1 n set) ν k) (ν.1 1) (funext fun j => goL_c (by decide) (by decide) k) _ hI.1 (WI_goL hW k) hne k (by omega) (tE ν.1 n set k) ((hI.2.1 _ _ (by omega)).trans (hp1.2.2.1 k (by omega))) (hTex k (by omega)) (hTsx k)) (by decide) rfl rfl (Nat.le_of_ble_eq_true rfl) he (fun μ7 hp7 => ?_)
    skip
    refine v_iinc (pc := 31) (i := 4) (v := nI (k + 1)) (lo' := [some (.ref _), some (.ref _), some (.int _), some (.int _), some (.int _), _]) F dX2_runInTruth_31 rfl (j_inc _) rfl rfl ?_
    refine v_goto (pc := 34) (tgt := 15) F dX2_runInTruth_34 (by decide) ?_
    exact ih (by omega) _ ⟨by rw [hoM_12 (fun p hp => tE_12 hp)]; exact hp7.1, hI.2.tr hp7.2⟩
