/-! the class: what changes a scene -/
theorem ordO_congr {age age' : Nat → Int32} {S : Nat → Bool} : ∀ {n : Nat}, (∀ l, l < n → age' l = age l) → ordO age' S n = ordO age S n := by
  intro n
  induction n with
  | zero => intro _; rfl
  | succ n ih =>
    intro h
    have e := ih (fun l hl => h l (by omega))
    by_cases c : S n = true
    · rw [ordO_t c, ordO_t c, e]
      have hp : ∀ i, i ≤ (ordO age S n).length → insP age' n (ordO age S n) i = insP age n (ordO age S n) i := by
        intro i
        induction i with
        | zero => intro _; rfl
        | succ i ih2 =>
          intro hi
          have hm := (ordO_mem.mp (getD_mem (O := ordO age S n) (j := i) (by omega))).1
          simp only [insP]
          rw [h n (by omega), h _ (by omega), ih2 (by omega)]
      unfold insO
      rw [hp _ (Nat.le_refl _)]
    · rw [ordO_f c, ordO_f c, e]
theorem SC.w2 {μ : j_M} {b n : Nat} {w w' : Nat → Nat → Int32} (h : SC μ b w n) (h1 : ∀ p, p < 12 → w' 1 p = w 1 p) (hl : ∀ c l, 2 ≤ c → c ≤ 7 → l < n → w' c l = w c l) (h8 : ∀ j, j < 8 * n → w' 8 j = w 8 j) (h9 : w' 0 9 = w 0 9) (hA : w' 0 10 = w 0 10) : SC μ b w' n := ⟨fun p hp => (h.srt p hp).trans (h1 p hp).symm, fun s hs => (h.plw s hs).trans (pwB_congr h1 s).symm, fun j hj => by rw [h.ord j hj]; unfold OA; rw [ordO_congr (fun l hlt => hl 4 l (by omega) (by omega) hlt)], fun l hlt => (h.lk l hlt).w (fun c a b => hl c l a b hlt) (fun s hs => h8 _ (by omega)), h.fil.trans (lfB_congr h1).symm, h.cnt, h.evs.trans h9.symm, h.sed.trans hA.symm⟩
abbrev pbit (p : Nat) : Int32 := (1 : Int32) <<< (nI p &&& 31)
theorem pw_rm {w : Nat → Nat → Int32} {p s : Nat} (hp : p < 12) (hs : s < 8) : pwB w s &&& (pbit p ^^^ (-1)) = pwB (wth w p (-1)) s := tb_ext (fun i hi => by
  unfold pwB
  rw [tb_and, tb_xor, tb_m1 hi, tb_one (by omega), tb_bK12, tb_bK12]
  by_cases e : i = p
  · subst e
    rw [show wth w i (-1) 1 i = -1 from if_pos ⟨rfl, rfl⟩, nIm1 (by omega)]; simp
  · rw [show wth w p (-1) 1 i = w 1 i from if_neg (fun z => e z.2), decide_eq_false e]; simp)
theorem pw_of {w : Nat → Nat → Int32} {p s : Nat} {v : Int32} (h1 : ¬ w 1 p = nI s) (h2 : ¬ v = nI s) : pwB (wth w p v) s = pwB w s := bK_congr (fun i _ => by
  by_cases e : i = p
  · subst e
    have a : (w 1 i == nI s) = false := by simpa using h1
    have b : (v == nI s) = false := by simpa using h2
    rw [show wth w i v 1 i = v from if_pos ⟨rfl, rfl⟩, a, b]
  · rw [show wth w p v 1 i = w 1 i from if_neg (fun z => e z.2)])
theorem pw_ad {w : Nat → Nat → Int32} {p s : Nat} (hp : p < 12) : pwB (wth w p (-1)) s ||| pbit p = pwB (wth w p (nI s)) s := tb_ext (fun i hi => by
  unfold pwB
  rw [tb_or, tb_one (by omega), tb_bK12, tb_bK12]
  by_cases e : i = p
  · subst e
    rw [show wth w i (nI s) 1 i = nI s from if_pos ⟨rfl, rfl⟩, decide_eq_true hp]; simp
  · rw [show wth w p (-1) 1 i = w 1 i from if_neg (fun z => e z.2), show wth w p (nI s) 1 i = w 1 i from if_neg (fun z => e z.2), decide_eq_false e]; simp)
theorem pw_ot {w : Nat → Nat → Int32} {p s s1 : Nat} (hs : s < 8) (hs1 : s1 < 8) (h : ¬ s = s1) : pwB (wth w p (nI s1)) s = pwB (wth w p (-1)) s := bK_congr (fun i _ => by
  by_cases e : i = p
  · subst e
    have a : (nI s1 == nI s) = false := by simpa using fun z => h ((nI_eq (by omega) (by omega)).mp z).symm
    rw [show wth w i (nI s1) 1 i = nI s1 from if_pos ⟨rfl, rfl⟩, show wth w i (-1) 1 i = -1 from if_pos ⟨rfl, rfl⟩, a, nIm1 (by omega)]
  · rw [show wth w p (nI s1) 1 i = w 1 i from if_neg (fun z => e z.2), show wth w p (-1) 1 i = w 1 i from if_neg (fun z => e z.2)])
theorem lf_rm {w : Nat → Nat → Int32} {p : Nat} (hp : p < 12) : lfB (w 1) &&& (pbit p ^^^ (-1)) = lfB (wth w p (-1) 1) := tb_ext (fun i hi => by
  unfold lfB
  rw [tb_and, tb_xor, tb_m1 hi, tb_one (by omega), tb_bK12, tb_bK12]
  by_cases e : i = p
  · subst e
    rw [show wth w i (-1) 1 i = -1 from if_pos ⟨rfl, rfl⟩]; simp
  · rw [show wth w p (-1) 1 i = w 1 i from if_neg (fun z => e z.2), decide_eq_false e]; simp)
theorem lf_ad {w : Nat → Nat → Int32} {p s : Nat} (hp : p < 12) (hs : s < 8) : lfB (wth w p (-1) 1) ||| pbit p = lfB (wth w p (nI s) 1) := tb_ext (fun i hi => by
  unfold lfB
  rw [tb_or, tb_one (by omega), tb_bK12, tb_bK12]
  by_cases e : i = p
  · subst e
    have a : (nI s == (-1 : Int32)) = false := by have := j_m1 (show s < 2 ^ 31 by omega); simpa using this
    rw [show wth w i (nI s) 1 i = nI s from if_pos ⟨rfl, rfl⟩, a, decide_eq_true hp]; simp
  · rw [show wth w p (-1) 1 i = w 1 i from if_neg (fun z => e z.2), show wth w p (nI s) 1 i = w 1 i from if_neg (fun z => e z.2), decide_eq_false e]; simp)
theorem SC_put {μ m : j_M} {b n p : Nat} {w : Nat → Nat → Int32} {v : Int32} (h : SC μ b w n) (hn : n ≤ 8) (h1 : ∀ q, q < 12 → m.1 (b + 1) q = wth w p v 1 q) (h2 : ∀ s, s < 8 → m.1 (b + 2) s = pwB (wth w p v) s) (h4 : m.1 b 4 = lfB (wth w p v 1)) (ho : ∀ c j, c ≠ b + 1 → c ≠ b + 2 → ¬ (c = b ∧ j = 4) → m.1 c j = μ.1 c j) : SC m b (wth w p v) n := by
  have f : ∀ c j, c ≠ 1 → wth w p v c j = w c j := fun c j q => if_neg (fun z => q z.1)
  exact ⟨h1, h2, fun j hj => (ho _ _ (by omega) (by omega) (by omega)).trans ((h.ord j hj).trans (by unfold OA; rw [show wth w p v 4 = w 4 from funext fun j => f _ _ (by omega)])), fun l hl => ((h.lk l hl).of (m := m) (fun c j a b => ho _ _ (by omega) (by omega) (by omega))).w (fun c a b => f _ _ (by omega)) (fun s hs => f _ _ (by omega)), h4, (ho _ _ (by omega) (by omega) (by omega)).trans h.cnt, (ho _ _ (by omega) (by omega) (by omega)).trans (h.evs.trans (f _ _ (by omega)).symm), (ho _ _ (by omega) (by omega) (by omega)).trans (h.sed.trans (f _ _ (by omega)).symm)⟩

set_option maxRecDepth 100000 in
theorem c_X4_put (b : Nat) (hb : j_ob ΛX b 4) (n : Nat) (w : Nat → Nat → Int32) (μ : j_M) (hS : SQ μ b w n) (hW : ∀ p, p < 12 → TH (w 1 p)) (p : Nat) (hp : p < 12) (v : Int32) (hv : TH v) : Ct yX4_put cX4_put 4 none 1 ΛX [.ref b, .int (nI p), .int v] μ (pV fun μ2 => SQ μ2 b (wth w p v) n ∧ Fm (PC b) μ μ2) := by
  refine Ct.go (lo := [some (.ref b), some (.int (nI p)), some (.int v), none]) (by decide) (Nat.le_of_ble_eq_true rfl) rfl rfl (fun X F => ?_)
  have F : Fx X cX4_put RX4 1 none ΛX := F
  have hn8 := hS.2
  rcases hv with rfl | ⟨s1, hs1, rfl⟩
  · skip
    refine v_aload_n (pc := 0) (i := 0) F dX4_put_0 rfl rfl ?_
    refine v_getR (pc := 1) (o := 1) F fX4_9 dX4_put_1 rfl hb ?_
    refine v_topR (y := b + 1) rfl ?_
    refine v_iload_n (pc := 4) (i := 1) F dX4_put_4 rfl rfl ?_
    refine v_ialdN (pc := 5) (k0 := p) F dX4_put_5 (lx4_0 hb) (rfl) (by omega) (by decide) ?_
    refine v_topE (y := (w 1 p)) (hS.1.srt p (by omega)) ?_
    rcases hW p hp with hwp | ⟨s0, hs0, hwp⟩
    · skip
      refine v_topE (y := -1) hwp ?_
      refine v_istore_n (pc := 6) (lo' := [some (.ref _), some (.int _), some (.int _), some (.int _)]) F dX4_put_6 rfl rfl (Nat.le_of_ble_eq_true rfl) rfl ?_
      refine v_iload_n (pc := 7) (i := 3) F dX4_put_7 rfl rfl ?_
      refine v_callSI (pc := 8) (As := [_]) (rest := []) F mX9_isSort kX4_57 sm_X9_isSort dX4_put_8 (c_X9_isSort _ _) (by decide) rfl rfl (Nat.le_of_ble_eq_true rfl) (fun x1 μ1 hp1 => ?_)
      rw [hp1.1, hp1.2]
      refine v_if_eq (pc := 11) (tgt := 28) F dX4_put_11 (by decide) (fun h11_2 => ?_) (fun h11_2 => ?_)
      · rw [b2i_0] at h11_2
        refine v_gen (fun m1 hm1 => ?_)
        have hD : ∀ s, s < 8 → m1.1 (b + 2) s = pwB (wth w p (-1)) s := fun s hs => by
          rw [hm1, hS.1.plw s hs]
          exact (pw_of (by rw [hwp]; exact fun z => absurd z.symm (j_m1 (by omega))) (fun z => absurd z.symm (j_m1 (by omega)))).symm
        have hO : ∀ c j, c ≠ b + 2 → m1.1 c j = μ.1 c j := fun c j _ => by rw [hm1]
        have hO2 : m1.2 = μ.2 := by rw [hm1]
        refine v_aload_n (pc := 28) (i := 0) F dX4_put_28 rfl rfl ?_
        refine v_dup (pc := 29) F dX4_put_29 rfl ?_
        refine v_getI (pc := 30) F fX4_51 dX4_put_30 rfl hb ?_
        refine v_topE (y := (lfB (w 1))) ((hO b 4 (by omega)).trans hS.1.fil) ?_
        refine v_iconst (pc := 33) (v := nI 1) F dX4_put_33 (by decide) ?_
        refine v_iload_n (pc := 34) (i := 1) F dX4_put_34 rfl rfl ?_
        refine v_ishl (pc := 35) F dX4_put_35 ?_
        refine v_iconst (pc := 36) (v := (-1)) F dX4_put_36 (by decide) ?_
        refine v_ixor (pc := 37) F dX4_put_37 ?_
        refine v_iand (pc := 38) F dX4_put_38 ?_
        refine v_put (pc := 39) F fX4_51 dX4_put_39 rfl rfl rfl hb ?_
        refine v_iload_n (pc := 42) (i := 2) F dX4_put_42 rfl rfl ?_
        refine v_callSI (pc := 43) (As := [_]) (rest := []) F mX9_isSort kX4_57 sm_X9_isSort dX4_put_43 (c_X9_isSort _ _) (by decide) rfl rfl (Nat.le_of_ble_eq_true rfl) (fun x3 μ3 hp3 => ?_)
        rw [hp3.1, hp3.2]
        refine v_if_eq (pc := 46) (tgt := 73) F dX4_put_46 (by decide) (fun h46_4 => ?_) (fun h46_4 => ?_)
        · rw [b2i_0] at h46_4
          refine v_aload_n (pc := 73) (i := 0) F dX4_put_73 rfl rfl ?_
          refine v_getR (pc := 74) (o := 1) F fX4_9 dX4_put_74 rfl hb ?_
          refine v_topR (y := b + 1) rfl ?_
          refine v_iload_n (pc := 77) (i := 1) F dX4_put_77 rfl rfl ?_
          refine v_iload_n (pc := 78) (i := 2) F dX4_put_78 rfl rfl ?_
          refine v_iastN (pc := 79) (k0 := p) F dX4_put_79 (lx4_0 hb) (rfl) (by omega) (by decide) ?_
          refine v_return (pc := 80) F dX4_put_80 ?_
          refine ⟨⟨SC_put hS.1 hS.2 (fun q hq => ?_) (fun s hs => ?_) ?_ (fun c j z1 z2 z3 => ?_), hS.2⟩, ⟨fun c j z => ?_, by show m1.2 = μ.2; exact hO2⟩⟩
          · by_cases e : q = p
            · subst e; rw [j_pI_at]; exact (if_pos ⟨rfl, rfl⟩).symm
            · rw [j_pI_off (by omega), show wth w p (-1) 1 q = w 1 q from if_neg (fun z => e z.2), ← hS.1.srt q hq, ← hO (b + 1) q (by omega)]
              repeat rw [j_pI_off (by omega)]
          · rw [← hD s hs]
            repeat rw [j_pI_off (by omega)]
          · rw [← lf_rm hp]
            rw [j_pI_off (by omega), j_pI_at]
            rfl
          · rw [← hO c j z2]
            repeat rw [j_pI_off (by omega)]
          · have z4 : ¬ (b ≤ c ∧ c < b + 21) := z
            rw [← hO c j (by omega)]
            repeat rw [j_pI_off (by omega)]
        · rw [b2i_0] at h46_4
          rw [Classical.not_not] at h46_4
          exact absurd h46_4 (by decide)
      · rw [b2i_0] at h11_2
        rw [Classical.not_not] at h11_2
        exact absurd h11_2 (by decide)
    · skip
      refine v_topE (y := nI s0) hwp ?_
      refine v_istore_n (pc := 6) (lo' := [some (.ref _), some (.int _), some (.int _), some (.int _)]) F dX4_put_6 rfl rfl (Nat.le_of_ble_eq_true rfl) rfl ?_
      refine v_iload_n (pc := 7) (i := 3) F dX4_put_7 rfl rfl ?_
      refine v_callSI (pc := 8) (As := [_]) (rest := []) F mX9_isSort kX4_57 sm_X9_isSort dX4_put_8 (c_X9_isSort _ _) (by decide) rfl rfl (Nat.le_of_ble_eq_true rfl) (fun x5 μ5 hp5 => ?_)
      rw [hp5.1, hp5.2]
      refine v_if_eq (pc := 11) (tgt := 28) F dX4_put_11 (by decide) (fun h11_6 => ?_) (fun h11_6 => ?_)
      · rw [b2i_0] at h11_6
        exact absurd ((inR_iff (by decide)).mpr ⟨s0, hs0, rfl⟩) h11_6
      · rw [b2i_0] at h11_6
        rw [Classical.not_not] at h11_6
        refine v_aload_n (pc := 14) (i := 0) F dX4_put_14 rfl rfl ?_
        refine v_getR (pc := 15) (o := 2) F fX4_15 dX4_put_15 rfl hb ?_
        refine v_topR (y := b + 2) rfl ?_
        refine v_iload_n (pc := 18) (i := 3) F dX4_put_18 rfl rfl ?_
        refine v_dup2 (pc := 19) F dX4_put_19 rfl rfl ?_
        refine v_ialdN (pc := 20) (k0 := s0) F dX4_put_20 (lx4_1 hb) (rfl) (by omega) (by decide) ?_
        refine v_topE (y := (pwB w s0)) (hS.1.plw s0 (by omega)) ?_
        refine v_iconst (pc := 21) (v := nI 1) F dX4_put_21 (by decide) ?_
        refine v_iload_n (pc := 22) (i := 1) F dX4_put_22 rfl rfl ?_
        refine v_ishl (pc := 23) F dX4_put_23 ?_
        refine v_iconst (pc := 24) (v := (-1)) F dX4_put_24 (by decide) ?_
        refine v_ixor (pc := 25) F dX4_put_25 ?_
        refine v_iand (pc := 26) F dX4_put_26 ?_
        refine v_iastN (pc := 27) (k0 := s0) F dX4_put_27 (lx4_1 hb) (rfl) (by omega) (by decide) ?_
        refine v_gen (fun m1 hm1 => ?_)
        have hD : ∀ s, s < 8 → m1.1 (b + 2) s = pwB (wth w p (-1)) s := fun s hs => by
          rw [hm1]
          by_cases e : s = s0
          · subst e; rw [j_pI_at]; exact pw_rm hp hs0
          · rw [j_pI_off (by omega), hS.1.plw s hs]
            exact (pw_of (by rw [hwp]; exact fun z => e ((nI_eq (by omega) (by omega)).mp z).symm) (fun z => absurd z.symm (j_m1 (by omega)))).symm
        have hO : ∀ c j, c ≠ b + 2 → m1.1 c j = μ.1 c j := fun c j q => by rw [hm1]; exact j_pI_off (by omega)
        have hO2 : m1.2 = μ.2 := by rw [hm1]; rfl
        refine v_aload_n (pc := 28) (i := 0) F dX4_put_28 rfl rfl ?_
        refine v_dup (pc := 29) F dX4_put_29 rfl ?_
        refine v_getI (pc := 30) F fX4_51 dX4_put_30 rfl hb ?_
        refine v_topE (y := (lfB (w 1))) ((hO b 4 (by omega)).trans hS.1.fil) ?_
        refine v_iconst (pc := 33) (v := nI 1) F dX4_put_33 (by decide) ?_
        refine v_iload_n (pc := 34) (i := 1) F dX4_put_34 rfl rfl ?_
        refine v_ishl (pc := 35) F dX4_put_35 ?_
        refine v_iconst (pc := 36) (v := (-1)) F dX4_put_36 (by decide) ?_
        refine v_ixor (pc := 37) F dX4_put_37 ?_
        refine v_iand (pc := 38) F dX4_put_38 ?_
        refine v_put (pc := 39) F fX4_51 dX4_put_39 rfl rfl rfl hb ?_
        refine v_iload_n (pc := 42) (i := 2) F dX4_put_42 rfl rfl ?_
        refine v_callSI (pc := 43) (As := [_]) (rest := []) F mX9_isSort kX4_57 sm_X9_isSort dX4_put_43 (c_X9_isSort _ _) (by decide) rfl rfl (Nat.le_of_ble_eq_true rfl) (fun x7 μ7 hp7 => ?_)
        rw [hp7.1, hp7.2]
        refine v_if_eq (pc := 46) (tgt := 73) F dX4_put_46 (by decide) (fun h46_8 => ?_) (fun h46_8 => ?_)
        · rw [b2i_0] at h46_8
          refine v_aload_n (pc := 73) (i := 0) F dX4_put_73 rfl rfl ?_
          refine v_getR (pc := 74) (o := 1) F fX4_9 dX4_put_74 rfl hb ?_
          refine v_topR (y := b + 1) rfl ?_
          refine v_iload_n (pc := 77) (i := 1) F dX4_put_77 rfl rfl ?_
          refine v_iload_n (pc := 78) (i := 2) F dX4_put_78 rfl rfl ?_
          refine v_iastN (pc := 79) (k0 := p) F dX4_put_79 (lx4_0 hb) (rfl) (by omega) (by decide) ?_
          refine v_return (pc := 80) F dX4_put_80 ?_
          refine ⟨⟨SC_put hS.1 hS.2 (fun q hq => ?_) (fun s hs => ?_) ?_ (fun c j z1 z2 z3 => ?_), hS.2⟩, ⟨fun c j z => ?_, by show m1.2 = μ.2; exact hO2⟩⟩
          · by_cases e : q = p
            · subst e; rw [j_pI_at]; exact (if_pos ⟨rfl, rfl⟩).symm
            · rw [j_pI_off (by omega), show wth w p (-1) 1 q = w 1 q from if_neg (fun z => e z.2), ← hS.1.srt q hq, ← hO (b + 1) q (by omega)]
              repeat rw [j_pI_off (by omega)]
          · rw [← hD s hs]
            repeat rw [j_pI_off (by omega)]
          · rw [← lf_rm hp]
            rw [j_pI_off (by omega), j_pI_at]
            rfl
          · rw [← hO c j z2]
            repeat rw [j_pI_off (by omega)]
          · have z4 : ¬ (b ≤ c ∧ c < b + 21) := z
            rw [← hO c j (by omega)]
            repeat rw [j_pI_off (by omega)]
        · rw [b2i_0] at h46_8
          rw [Classical.not_not] at h46_8
          exact absurd h46_8 (by decide)
  · skip
    refine v_aload_n (pc := 0) (i := 0) F dX4_put_0 rfl rfl ?_
    refine v_getR (pc := 1) (o := 1) F fX4_9 dX4_put_1 rfl hb ?_
    refine v_topR (y := b + 1) rfl ?_
    refine v_iload_n (pc := 4) (i := 1) F dX4_put_4 rfl rfl ?_
    refine v_ialdN (pc := 5) (k0 := p) F dX4_put_5 (lx4_0 hb) (rfl) (by omega) (by decide) ?_
    refine v_topE (y := (w 1 p)) (hS.1.srt p (by omega)) ?_
    rcases hW p hp with hwp | ⟨s0, hs0, hwp⟩
    · skip
      refine v_topE (y := -1) hwp ?_
      refine v_istore_n (pc := 6) (lo' := [some (.ref _), some (.int _), some (.int _), some (.int _)]) F dX4_put_6 rfl rfl (Nat.le_of_ble_eq_true rfl) rfl ?_
      refine v_iload_n (pc := 7) (i := 3) F dX4_put_7 rfl rfl ?_
      refine v_callSI (pc := 8) (As := [_]) (rest := []) F mX9_isSort kX4_57 sm_X9_isSort dX4_put_8 (c_X9_isSort _ _) (by decide) rfl rfl (Nat.le_of_ble_eq_true rfl) (fun x9 μ9 hp9 => ?_)
      rw [hp9.1, hp9.2]
      refine v_if_eq (pc := 11) (tgt := 28) F dX4_put_11 (by decide) (fun h11_10 => ?_) (fun h11_10 => ?_)
      · rw [b2i_0] at h11_10
        refine v_gen (fun m1 hm1 => ?_)
        have hD : ∀ s, s < 8 → m1.1 (b + 2) s = pwB (wth w p (-1)) s := fun s hs => by
          rw [hm1, hS.1.plw s hs]
          exact (pw_of (by rw [hwp]; exact fun z => absurd z.symm (j_m1 (by omega))) (fun z => absurd z.symm (j_m1 (by omega)))).symm
        have hO : ∀ c j, c ≠ b + 2 → m1.1 c j = μ.1 c j := fun c j _ => by rw [hm1]
        have hO2 : m1.2 = μ.2 := by rw [hm1]
        refine v_aload_n (pc := 28) (i := 0) F dX4_put_28 rfl rfl ?_
        refine v_dup (pc := 29) F dX4_put_29 rfl ?_
        refine v_getI (pc := 30) F fX4_51 dX4_put_30 rfl hb ?_
        refine v_topE (y := (lfB (w 1))) ((hO b 4 (by omega)).trans hS.1.fil) ?_
        refine v_iconst (pc := 33) (v := nI 1) F dX4_put_33 (by decide) ?_
        refine v_iload_n (pc := 34) (i := 1) F dX4_put_34 rfl rfl ?_
        refine v_ishl (pc := 35) F dX4_put_35 ?_
        refine v_iconst (pc := 36) (v := (-1)) F dX4_put_36 (by decide) ?_
        refine v_ixor (pc := 37) F dX4_put_37 ?_
        refine v_iand (pc := 38) F dX4_put_38 ?_
        refine v_put (pc := 39) F fX4_51 dX4_put_39 rfl rfl rfl hb ?_
        refine v_iload_n (pc := 42) (i := 2) F dX4_put_42 rfl rfl ?_
        refine v_callSI (pc := 43) (As := [_]) (rest := []) F mX9_isSort kX4_57 sm_X9_isSort dX4_put_43 (c_X9_isSort _ _) (by decide) rfl rfl (Nat.le_of_ble_eq_true rfl) (fun x11 μ11 hp11 => ?_)
        rw [hp11.1, hp11.2]
        refine v_if_eq (pc := 46) (tgt := 73) F dX4_put_46 (by decide) (fun h46_12 => ?_) (fun h46_12 => ?_)
        · rw [b2i_0] at h46_12
          exact absurd ((inR_iff (by decide)).mpr ⟨s1, hs1, rfl⟩) h46_12
        · rw [b2i_0] at h46_12
          rw [Classical.not_not] at h46_12
          refine v_aload_n (pc := 49) (i := 0) F dX4_put_49 rfl rfl ?_
          refine v_getR (pc := 50) (o := 2) F fX4_15 dX4_put_50 rfl hb ?_
          refine v_topR (y := b + 2) rfl ?_
          refine v_iload_n (pc := 53) (i := 2) F dX4_put_53 rfl rfl ?_
          refine v_dup2 (pc := 54) F dX4_put_54 rfl rfl ?_
          refine v_ialdN (pc := 55) (k0 := s1) F dX4_put_55 (lx4_1 hb) (rfl) (by omega) (by decide) ?_
          refine v_topE (y := (pwB (wth w p (-1)) s1)) ((j_pI_off (by omega)).trans (hD s1 (by omega))) ?_
          refine v_iconst (pc := 56) (v := nI 1) F dX4_put_56 (by decide) ?_
          refine v_iload_n (pc := 57) (i := 1) F dX4_put_57 rfl rfl ?_
          refine v_ishl (pc := 58) F dX4_put_58 ?_
          refine v_ior (pc := 59) F dX4_put_59 ?_
          refine v_iastN (pc := 60) (k0 := s1) F dX4_put_60 (lx4_1 hb) (rfl) (by omega) (by decide) ?_
          refine v_aload_n (pc := 61) (i := 0) F dX4_put_61 rfl rfl ?_
          refine v_dup (pc := 62) F dX4_put_62 rfl ?_
          refine v_getI (pc := 63) F fX4_51 dX4_put_63 rfl hb ?_
          refine v_iconst (pc := 66) (v := nI 1) F dX4_put_66 (by decide) ?_
          refine v_iload_n (pc := 67) (i := 1) F dX4_put_67 rfl rfl ?_
          refine v_ishl (pc := 68) F dX4_put_68 ?_
          refine v_ior (pc := 69) F dX4_put_69 ?_
          refine v_put (pc := 70) F fX4_51 dX4_put_70 rfl rfl rfl hb ?_
          refine v_aload_n (pc := 73) (i := 0) F dX4_put_73 rfl rfl ?_
          refine v_getR (pc := 74) (o := 1) F fX4_9 dX4_put_74 rfl hb ?_
          refine v_topR (y := b + 1) rfl ?_
          refine v_iload_n (pc := 77) (i := 1) F dX4_put_77 rfl rfl ?_
          refine v_iload_n (pc := 78) (i := 2) F dX4_put_78 rfl rfl ?_
          refine v_iastN (pc := 79) (k0 := p) F dX4_put_79 (lx4_0 hb) (rfl) (by omega) (by decide) ?_
          refine v_return (pc := 80) F dX4_put_80 ?_
          refine ⟨⟨SC_put hS.1 hS.2 (fun q hq => ?_) (fun s hs => ?_) ?_ (fun c j z1 z2 z3 => ?_), hS.2⟩, ⟨fun c j z => ?_, by show m1.2 = μ.2; exact hO2⟩⟩
          · by_cases e : q = p
            · subst e; rw [j_pI_at]; exact (if_pos ⟨rfl, rfl⟩).symm
            · rw [j_pI_off (by omega), show wth w p (nI s1) 1 q = w 1 q from if_neg (fun z => e z.2), ← hS.1.srt q hq, ← hO (b + 1) q (by omega)]
              repeat rw [j_pI_off (by omega)]
          · by_cases e : s = s1
            · subst e; rw [j_pI_off (by omega), j_pI_off (by omega), j_pI_at]; exact pw_ad hp
            · rw [pw_ot hs hs1 e, ← hD s hs]
              repeat rw [j_pI_off (by omega)]
          · rw [← lf_ad hp hs1, ← lf_rm hp]
            rw [j_pI_off (by omega), j_pI_at, j_pI_off (by omega), j_pI_at]
            rfl
          · rw [← hO c j z2]
            repeat rw [j_pI_off (by omega)]
          · have z4 : ¬ (b ≤ c ∧ c < b + 21) := z
            rw [← hO c j (by omega)]
            repeat rw [j_pI_off (by omega)]
      · rw [b2i_0] at h11_10
        rw [Classical.not_not] at h11_10
        exact absurd h11_10 (by decide)
    · skip
      refine v_topE (y := nI s0) hwp ?_
      refine v_istore_n (pc := 6) (lo' := [some (.ref _), some (.int _), some (.int _), some (.int _)]) F dX4_put_6 rfl rfl (Nat.le_of_ble_eq_true rfl) rfl ?_
      refine v_iload_n (pc := 7) (i := 3) F dX4_put_7 rfl rfl ?_
      refine v_callSI (pc := 8) (As := [_]) (rest := []) F mX9_isSort kX4_57 sm_X9_isSort dX4_put_8 (c_X9_isSort _ _) (by decide) rfl rfl (Nat.le_of_ble_eq_true rfl) (fun x13 μ13 hp13 => ?_)
      rw [hp13.1, hp13.2]
      refine v_if_eq (pc := 11) (tgt := 28) F dX4_put_11 (by decide) (fun h11_14 => ?_) (fun h11_14 => ?_)
      · rw [b2i_0] at h11_14
        exact absurd ((inR_iff (by decide)).mpr ⟨s0, hs0, rfl⟩) h11_14
      · rw [b2i_0] at h11_14
        rw [Classical.not_not] at h11_14
        refine v_aload_n (pc := 14) (i := 0) F dX4_put_14 rfl rfl ?_
        refine v_getR (pc := 15) (o := 2) F fX4_15 dX4_put_15 rfl hb ?_
        refine v_topR (y := b + 2) rfl ?_
        refine v_iload_n (pc := 18) (i := 3) F dX4_put_18 rfl rfl ?_
        refine v_dup2 (pc := 19) F dX4_put_19 rfl rfl ?_
        refine v_ialdN (pc := 20) (k0 := s0) F dX4_put_20 (lx4_1 hb) (rfl) (by omega) (by decide) ?_
        refine v_topE (y := (pwB w s0)) (hS.1.plw s0 (by omega)) ?_
        refine v_iconst (pc := 21) (v := nI 1) F dX4_put_21 (by decide) ?_
        refine v_iload_n (pc := 22) (i := 1) F dX4_put_22 rfl rfl ?_
        refine v_ishl (pc := 23) F dX4_put_23 ?_
        refine v_iconst (pc := 24) (v := (-1)) F dX4_put_24 (by decide) ?_
        refine v_ixor (pc := 25) F dX4_put_25 ?_
        refine v_iand (pc := 26) F dX4_put_26 ?_
        refine v_iastN (pc := 27) (k0 := s0) F dX4_put_27 (lx4_1 hb) (rfl) (by omega) (by decide) ?_
        refine v_gen (fun m1 hm1 => ?_)
        have hD : ∀ s, s < 8 → m1.1 (b + 2) s = pwB (wth w p (-1)) s := fun s hs => by
          rw [hm1]
          by_cases e : s = s0
          · subst e; rw [j_pI_at]; exact pw_rm hp hs0
          · rw [j_pI_off (by omega), hS.1.plw s hs]
            exact (pw_of (by rw [hwp]; exact fun z => e ((nI_eq (by omega) (by omega)).mp z).symm) (fun z => absurd z.symm (j_m1 (by omega)))).symm
        have hO : ∀ c j, c ≠ b + 2 → m1.1 c j = μ.1 c j := fun c j q => by rw [hm1]; exact j_pI_off (by omega)
        have hO2 : m1.2 = μ.2 := by rw [hm1]; rfl
        refine v_aload_n (pc := 28) (i := 0) F dX4_put_28 rfl rfl ?_
        refine v_dup (pc := 29) F dX4_put_29 rfl ?_
        refine v_getI (pc := 30) F fX4_51 dX4_put_30 rfl hb ?_
        refine v_topE (y := (lfB (w 1))) ((hO b 4 (by omega)).trans hS.1.fil) ?_
        refine v_iconst (pc := 33) (v := nI 1) F dX4_put_33 (by decide) ?_
        refine v_iload_n (pc := 34) (i := 1) F dX4_put_34 rfl rfl ?_
        refine v_ishl (pc := 35) F dX4_put_35 ?_
        refine v_iconst (pc := 36) (v := (-1)) F dX4_put_36 (by decide) ?_
        refine v_ixor (pc := 37) F dX4_put_37 ?_
        refine v_iand (pc := 38) F dX4_put_38 ?_
        refine v_put (pc := 39) F fX4_51 dX4_put_39 rfl rfl rfl hb ?_
        refine v_iload_n (pc := 42) (i := 2) F dX4_put_42 rfl rfl ?_
        refine v_callSI (pc := 43) (As := [_]) (rest := []) F mX9_isSort kX4_57 sm_X9_isSort dX4_put_43 (c_X9_isSort _ _) (by decide) rfl rfl (Nat.le_of_ble_eq_true rfl) (fun x15 μ15 hp15 => ?_)
        rw [hp15.1, hp15.2]
        refine v_if_eq (pc := 46) (tgt := 73) F dX4_put_46 (by decide) (fun h46_16 => ?_) (fun h46_16 => ?_)
        · rw [b2i_0] at h46_16
          exact absurd ((inR_iff (by decide)).mpr ⟨s1, hs1, rfl⟩) h46_16
        · rw [b2i_0] at h46_16
          rw [Classical.not_not] at h46_16
          refine v_aload_n (pc := 49) (i := 0) F dX4_put_49 rfl rfl ?_
          refine v_getR (pc := 50) (o := 2) F fX4_15 dX4_put_50 rfl hb ?_
          refine v_topR (y := b + 2) rfl ?_
          refine v_iload_n (pc := 53) (i := 2) F dX4_put_53 rfl rfl ?_
          refine v_dup2 (pc := 54) F dX4_put_54 rfl rfl ?_
          refine v_ialdN (pc := 55) (k0 := s1) F dX4_put_55 (lx4_1 hb) (rfl) (by omega) (by decide) ?_
          refine v_topE (y := (pwB (wth w p (-1)) s1)) ((j_pI_off (by omega)).trans (hD s1 (by omega))) ?_
          refine v_iconst (pc := 56) (v := nI 1) F dX4_put_56 (by decide) ?_
          refine v_iload_n (pc := 57) (i := 1) F dX4_put_57 rfl rfl ?_
          refine v_ishl (pc := 58) F dX4_put_58 ?_
          refine v_ior (pc := 59) F dX4_put_59 ?_
          refine v_iastN (pc := 60) (k0 := s1) F dX4_put_60 (lx4_1 hb) (rfl) (by omega) (by decide) ?_
          refine v_aload_n (pc := 61) (i := 0) F dX4_put_61 rfl rfl ?_
          refine v_dup (pc := 62) F dX4_put_62 rfl ?_
          refine v_getI (pc := 63) F fX4_51 dX4_put_63 rfl hb ?_
          refine v_iconst (pc := 66) (v := nI 1) F dX4_put_66 (by decide) ?_
          refine v_iload_n (pc := 67) (i := 1) F dX4_put_67 rfl rfl ?_
          refine v_ishl (pc := 68) F dX4_put_68 ?_
          refine v_ior (pc := 69) F dX4_put_69 ?_
          refine v_put (pc := 70) F fX4_51 dX4_put_70 rfl rfl rfl hb ?_
          refine v_aload_n (pc := 73) (i := 0) F dX4_put_73 rfl rfl ?_
          refine v_getR (pc := 74) (o := 1) F fX4_9 dX4_put_74 rfl hb ?_
          refine v_topR (y := b + 1) rfl ?_
          refine v_iload_n (pc := 77) (i := 1) F dX4_put_77 rfl rfl ?_
          refine v_iload_n (pc := 78) (i := 2) F dX4_put_78 rfl rfl ?_
          refine v_iastN (pc := 79) (k0 := p) F dX4_put_79 (lx4_0 hb) (rfl) (by omega) (by decide) ?_
          refine v_return (pc := 80) F dX4_put_80 ?_
          refine ⟨⟨SC_put hS.1 hS.2 (fun q hq => ?_) (fun s hs => ?_) ?_ (fun c j z1 z2 z3 => ?_), hS.2⟩, ⟨fun c j z => ?_, by show m1.2 = μ.2; exact hO2⟩⟩
          · by_cases e : q = p
            · subst e; rw [j_pI_at]; exact (if_pos ⟨rfl, rfl⟩).symm
            · rw [j_pI_off (by omega), show wth w p (nI s1) 1 q = w 1 q from if_neg (fun z => e z.2), ← hS.1.srt q hq, ← hO (b + 1) q (by omega)]
              repeat rw [j_pI_off (by omega)]
          · by_cases e : s = s1
            · subst e; rw [j_pI_off (by omega), j_pI_off (by omega), j_pI_at]; exact pw_ad hp
            · rw [pw_ot hs hs1 e, ← hD s hs]
              repeat rw [j_pI_off (by omega)]
          · rw [← lf_ad hp hs1, ← lf_rm hp]
            rw [j_pI_off (by omega), j_pI_at, j_pI_off (by omega), j_pI_at]
            rfl
          · rw [← hO c j z2]
            repeat rw [j_pI_off (by omega)]
          · have z4 : ¬ (b ≤ c ∧ c < b + 21) := z
            rw [← hO c j (by omega)]
            repeat rw [j_pI_off (by omega)]
