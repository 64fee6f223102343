/-! the class: evenings and christmases -/
theorem goes_W {ν : j_M} {set : Int32} : Fm PWd ν (s_goes set ν).2 := by
  unfold s_goes
  refine ⟨fun c j q => ?_, ?_⟩
  · have q2 : ¬ (c = 1 ∨ (2 ≤ c ∧ c ≤ 8) ∨ (c = 0 ∧ (j = 1 ∨ j = 9 ∨ j = 10))) := q
    rw [j_pI_off (by omega), goF_o (by omega), goL_c (by omega) (by omega)]
  · show (goL (ν.1 1) (tE ν.1 (nn ν) set) ν (nn ν)).2 = ν.2
    have h1 : ∀ (T : List Nat) (l : Nat) (m : j_M) (p : Nat), (gnP (ν.1 1) T l m p).2 = m.2 := by
      intro T l m p
      induction p with
      | zero => rfl
      | succ p ih =>
        by_cases h : p ∈ T
        · rw [gnP_t h]; exact ih
        · rw [gnP_f h]; exact ih
    have h2 : ∀ k, (goL (ν.1 1) (tE ν.1 (nn ν) set) ν k).2 = ν.2 := by
      intro k
      induction k with
      | zero => rfl
      | succ k ih =>
        by_cases h : (tE ν.1 (nn ν) set k).isEmpty = true
        · rw [goL_t h, h1]; exact ih
        · rw [goL_f h]
          show (gnP _ _ _ _ _).2 = _
          rw [h1]; exact ih
    exact h2 _
theorem goes_nn {ν : j_M} {set : Int32} {n : Nat} (h : nn ν = n) : nn (s_goes set ν).2 = n := by
  rw [← h]
  unfold nn s_goes
  rw [j_pI_off (by omega), goF_o (by omega), goL_c (by decide) (by decide)]
theorem Rel.wrl {μ m ν ν' : j_M} {n : Nat} {P : Nat → Nat → Prop} (hM : MI ν) (h : Rel μ ν) (hs : SQ m 1 ν'.1 n) (hn : nn ν' = n) (hF : Fm P μ m) (hP : ∀ c j, P c j → PC 1 c j ∨ PX c j) (hW : Fm PWd ν ν') : Rel m ν' := by
  refine h.scn hM hF hP ?_ (fun c j z => hW.1 c j z) hW.2
  rw [hn]; exact hs.1
theorem drM_W {ν : j_M} : Fm PWd ν (drM ν) := Fm.rf.pI (by omega)
theorem cm_W {ν : j_M} : ∀ l, Fm PWd ν (cmS ν l).2 := by
  intro l
  induction l with
  | zero => exact Fm.rf
  | succ l ih => exact ih.tr drM_W
theorem fi_W {ν : j_M} : ∀ p, p ≤ 12 → Fm PWd ν (fiM ν p) := by
  intro p
  induction p with
  | zero => intro _; exact Fm.rf
  | succ p ih =>
    intro hp
    by_cases h : (fiM ν p).1 1 p = -1
    · rw [fi_t h]; exact ((ih (by omega)).tr drM_W).pI (by omega)
    · rw [fi_f h]; exact ih (by omega)
theorem WI_dr {ν : j_M} {n : Nat} (h : WI ν.1 n) : WI (drM ν).1 n := h.up (j_pI_off (by omega)) (fun p hp => by unfold drM; rw [j_pI_off (by omega)]; exact h.t p hp) (fun l _ => j_pI_off (by omega)) (fun l _ => j_pI_off (by omega)) (fun l hl => by unfold drM; rw [j_pI_off (by omega)]; exact h.sh hl)
theorem WI_cm {ν : j_M} {n : Nat} (h : WI ν.1 n) : ∀ l, WI (cmS ν l).2.1 n := by
  intro l
  induction l with
  | zero => exact h
  | succ l ih => exact WI_dr ih
theorem WI_fi {ν : j_M} {n : Nat} (h : WI ν.1 n) : ∀ p, WI (fiM ν p).1 n := by
  intro p
  induction p with
  | zero => exact h
  | succ p ih =>
    by_cases c : (fiM ν p).1 1 p = -1
    · rw [fi_t c]
      have h2 := WI_dr ih
      refine h2.up (j_pI_off (by omega)) (fun q hq => ?_) (fun l _ => j_pI_off (by omega)) (fun l _ => j_pI_off (by omega)) (fun l hl => by rw [j_pI_off (by omega)]; exact h2.sh hl)
      by_cases e : q = p
      · subst e; rw [j_pI_at]; exact th_nI (drv_lt (by decide))
      · rw [j_pI_off (by omega)]; exact h2.t q hq
    · rw [fi_f c]; exact ih
theorem nn_dr {ν : j_M} : nn (drM ν) = nn ν := nn_off (by omega)
theorem nn_cm {ν : j_M} : ∀ l, nn (cmS ν l).2 = nn ν := by
  intro l
  induction l with
  | zero => rfl
  | succ l ih => exact nn_dr.trans ih
theorem nn_fi {ν : j_M} : ∀ p, nn (fiM ν p) = nn ν := by
  intro p
  induction p with
  | zero => rfl
  | succ p ih =>
    by_cases h : (fiM ν p).1 1 p = -1
    · rw [fi_t h, nn_off (by omega), nn_dr]; exact ih
    · rw [fi_f h]; exact ih
theorem WI_f12 {ν : j_M} {n : Nat} (h : WI ν.1 n) : WI (fi12 ν).1 n := by
  have q := WI_fi h 12
  unfold fi12
  exact q
theorem nn_f12 {ν : j_M} : nn (fi12 ν) = nn ν := by
  have q := nn_fi (ν := ν) 12
  unfold fi12
  exact q
theorem f12_W {ν : j_M} : Fm PWd ν (fi12 ν) := by
  have q := fi_W (ν := ν) 12 (Nat.le_refl _)
  unfold fi12
  exact q
theorem ch_all {ν : j_M} {n : Nat} (hW : WI ν.1 n) (hn : nn ν = n) : ∀ i, WI (chM n ν i).2.1 n ∧ nn (chM n ν i).2 = n ∧ Fm PWd ν (chM n ν i).2 := by
  intro i
  induction i with
  | zero => exact ⟨hW, hn, Fm.rf⟩
  | succ i ih =>
    obtain ⟨h1, h2, h3⟩ := ih
    rw [ch_2]
    have a1 := WI_cm h1 n
    have a2 : nn (cmS (chM n ν i).2 n).2 = n := (nn_cm n).trans h2
    have b1 := WI_goes (set := (cmS (chM n ν i).2 n).1) a1 a2
    have b2 := goes_nn (set := (cmS (chM n ν i).2 n).1) a2
    exact ⟨WI_f12 b1, nn_f12.trans b2, h3.tr ((cm_W n).tr (goes_W.tr f12_W))⟩

set_option maxRecDepth 100000 in
theorem c_X4_draw (b : Nat) (hb : j_ob ΛX b 4) (n : Nat) (ν μ : j_M) (hS : SQ μ b ν.1 n) (m : Nat) (h0 : 0 < m) (hm : m < 100) : Ct yX4_draw cX4_draw 2 (some .int) 0 ΛX [.ref b, .int (nI m)] μ (pI fun r μ2 => r = nI (drv (sdN (ν.1 0 10)) m) ∧ SQ μ2 b (drM ν).1 n ∧ Fm (PC b) μ μ2) := by
  refine Ct.go (lo := [some (.ref b), some (.int (nI m))]) (by decide) (Nat.le_of_ble_eq_true rfl) rfl rfl (fun X F => ?_)
  have F : Fx X cX4_draw RX4 0 (some .int) ΛX := F
  have hn8 := hS.2
  refine v_aload_n (pc := 0) (i := 0) F dX4_draw_0 rfl rfl ?_
  refine v_aload_n (pc := 1) (i := 0) F dX4_draw_1 rfl rfl ?_
  refine v_getI (pc := 2) F fX4_27 dX4_draw_2 rfl hb ?_
  refine v_topE (y := (ν.1 0 10)) (hS.1.sed) ?_
  refine v_ldc (pc := 5) F dX4_draw_5 kcX4_139 ?_
  refine v_imul (pc := 7) F dX4_draw_7 ?_
  refine v_sipush (pc := 8) (v := nI 12345) F dX4_draw_8 (by decide) ?_
  refine v_iadd (pc := 11) F dX4_draw_11 ?_
  refine v_put (pc := 12) F fX4_27 dX4_draw_12 rfl rfl rfl hb ?_
  refine v_iload_n (pc := 15) (i := 1) F dX4_draw_15 rfl rfl ?_
  refine v_if_le (pc := 16) (tgt := 31) F dX4_draw_16 (by decide) (fun h16_1 => ?_) (fun h16_1 => ?_)
  · rw [j_le0 (by omega)] at h16_1
    omega
  · rw [j_le0 (by omega)] at h16_1
    refine v_aload_n (pc := 19) (i := 0) F dX4_draw_19 rfl rfl ?_
    refine v_getI (pc := 20) F fX4_27 dX4_draw_20 rfl hb ?_
    refine v_topE (y := (sdN (ν.1 0 10))) (j_pI_at) ?_
    refine v_bipush (pc := 23) (v := nI 16) F dX4_draw_23 (by decide) ?_
    refine v_iushr (pc := 25) F dX4_draw_25 ?_
    refine v_iload_n (pc := 26) (i := 1) F dX4_draw_26 rfl rfl ?_
    refine v_irem (pc := 27) F dX4_draw_27 (nI_ne0 h0 (by omega)) ?_
    refine v_goto (pc := 28) (tgt := 32) F dX4_draw_28 (by decide) ?_
    refine v_ireturn (pc := 32) F dX4_draw_32 (rfl) ?_
    refine ⟨?_, ⟨hS.1.f7 hn8, hn8⟩, Fm.rf.pI (by omega)⟩
    rw [dv_y, nI_mod (Nat.lt_of_lt_of_le (dvY_lt _) (by decide)) h0 (by omega)]
    rfl

set_option maxRecDepth 100000 in
theorem c_X4_drawWhoCome (b : Nat) (hb : j_ob ΛX b 4) (n : Nat) (ν μ : j_M) (hS : SQ μ b ν.1 n)  : Ct yX4_drawWhoCome cX4_drawWhoCome 3 (some .int) 1 ΛX [.ref b] μ (pI fun r μ2 => r = (cmS ν n).1 ∧ SQ μ2 b (cmS ν n).2.1 n ∧ Fm (PC b) μ μ2) := by
  refine Ct.go (lo := [some (.ref b), none, none]) (by decide) (Nat.le_of_ble_eq_true rfl) rfl rfl (fun X F => ?_)
  have F : Fx X cX4_drawWhoCome RX4 1 (some .int) ΛX := F
  have hn8 := hS.2
  refine v_iconst (pc := 0) (v := nI 0) F dX4_drawWhoCome_0 (by decide) ?_
  refine v_istore_n (pc := 1) (lo' := [some (.ref _), some (.int _), _]) F dX4_drawWhoCome_1 rfl rfl (Nat.le_of_ble_eq_true rfl) rfl ?_
  refine v_iconst (pc := 2) (v := nI 0) F dX4_drawWhoCome_2 (by decide) ?_
  refine v_istore_n (pc := 3) (lo' := [some (.ref _), some (.int _), some (.int _)]) F dX4_drawWhoCome_3 rfl rfl (Nat.le_of_ble_eq_true rfl) rfl ?_
  refine j_up n (fun k => ∀ μ' : j_M, (SQ μ' b (cmS ν k).2.1 n ∧ Fm (PC b) μ μ') → V X _ 4 [some (.ref b), some (.int ((cmS ν k).1)), some (.int (nI k))] [] μ') (fun k hk ih μ' hI => ?_) 0 (Nat.zero_le _) μ (⟨hS, Fm.rf⟩)
  refine v_iload_n (pc := 4) (i := 2) F dX4_drawWhoCome_4 rfl rfl ?_
  refine v_aload_n (pc := 5) (i := 0) F dX4_drawWhoCome_5 rfl rfl ?_
  refine v_getI (pc := 6) F fX4_44 dX4_drawWhoCome_6 rfl hb ?_
  refine v_topE (y := nI n) (hI.1.1.cnt) ?_
  refine v_icmp_ge (pc := 9) (tgt := 42) F dX4_drawWhoCome_9 (by decide) (fun h9_1 => ?_) (fun h9_1 => ?_)
  · rw [nI_leI (by omega) (by omega)] at h9_1
    refine v_iload_n (pc := 42) (i := 1) F dX4_drawWhoCome_42 rfl rfl ?_
    refine v_ireturn (pc := 43) F dX4_drawWhoCome_43 (rfl) ?_
    have e : k = n := by omega
    subst e
    exact ⟨rfl, hI⟩
  · rw [nI_leI (by omega) (by omega)] at h9_1
    refine v_aload_n (pc := 12) (i := 0) F dX4_drawWhoCome_12 rfl rfl ?_
    refine v_bipush (pc := 13) (v := nI 12) F dX4_drawWhoCome_13 (by decide) ?_
    refine v_callVI (pc := 15) (As := [_]) (rest := []) (c := 4) F mX4_draw kX4_140 im_X4_draw se_X4_draw dX4_drawWhoCome_15 rfl rfl (by decide) (c_X4_draw b hb n (cmS ν k).2 _ (hI.1) 12 (by decide) (by decide)) (by decide) rfl rfl (Nat.le_of_ble_eq_true rfl) hb (fun x2 μ2 hp2 => ?_)
    rw [hp2.1]
    refine v_aload_n (pc := 18) (i := 0) F dX4_drawWhoCome_18 rfl rfl ?_
    refine v_getR (pc := 19) (o := 3) F fX4_20 dX4_drawWhoCome_19 rfl hb ?_
    refine v_topR (y := b + 3) rfl ?_
    refine v_iload_n (pc := 22) (i := 2) F dX4_drawWhoCome_22 rfl rfl ?_
    refine v_aald14N (pc := 23) (k0 := k) (x := b + 5 + 2 * k) F dX4_drawWhoCome_23 (lx4_2 hb) (rfl) (by omega) (by decide) (by simp only [j_ro]; first | rfl | omega | (split <;> omega)) ?_
    have ho3 : j_ob ΛX (b + 5 + 2 * k) 3 := by
      have q := lxL (lx4_2 hb) (j := k) (by omega)
      simp only [j_ro] at q
      exact (by first | exact q | (rw [show b + 5 + 2 * k = _ from (by first | rfl | omega)]; exact q))
    refine v_getI (pc := 24) F fX4_143 dX4_drawWhoCome_24 rfl ho3 ?_
    refine v_topE (y := ((cmS ν k).2.1 6 k)) (((hp2.2.1.1.lk k (by omega)).c).trans (j_pI_off (by omega))) ?_
    refine v_icmp_ge (pc := 27) (tgt := 36) F dX4_drawWhoCome_27 (by decide) (fun hlt0 => ?_) (fun hlt0 => ?_)
    · skip
      have hlt := Int32.not_lt.mpr hlt0
      refine v_iinc (pc := 36) (i := 2) (v := nI (k + 1)) (lo' := [some (.ref _), some (.int _), some (.int _)]) F dX4_drawWhoCome_36 rfl (j_inc _) rfl rfl ?_
      refine v_goto (pc := 39) (tgt := 4) F dX4_drawWhoCome_39 (by decide) ?_
      have q := ih (by omega)
      rw [cm_f hlt] at q
      exact q _ ⟨hp2.2.1, hI.2.tr hp2.2.2⟩
    · skip
      have hlt := Int32.not_le.mp hlt0
      refine v_iload_n (pc := 30) (i := 1) F dX4_drawWhoCome_30 rfl rfl ?_
      refine v_iconst (pc := 31) (v := nI 1) F dX4_drawWhoCome_31 (by decide) ?_
      refine v_iload_n (pc := 32) (i := 2) F dX4_drawWhoCome_32 rfl rfl ?_
      refine v_ishl (pc := 33) F dX4_drawWhoCome_33 ?_
      refine v_ior (pc := 34) F dX4_drawWhoCome_34 ?_
      refine v_istore_n (pc := 35) (lo' := [some (.ref _), some (.int _), some (.int _)]) F dX4_drawWhoCome_35 rfl rfl (Nat.le_of_ble_eq_true rfl) rfl ?_
      refine v_iinc (pc := 36) (i := 2) (v := nI (k + 1)) (lo' := [some (.ref _), some (.int _), some (.int _)]) F dX4_drawWhoCome_36 rfl (j_inc _) rfl rfl ?_
      refine v_goto (pc := 39) (tgt := 4) F dX4_drawWhoCome_39 (by decide) ?_
      have q := ih (by omega)
      rw [cm_t hlt] at q
      exact q _ ⟨hp2.2.1, hI.2.tr hp2.2.2⟩

set_option maxRecDepth 100000 in
theorem c_X4_drawThings (b : Nat) (hb : j_ob ΛX b 4) (n : Nat) (ν μ : j_M) (hS : SQ μ b ν.1 n) (hW : WI ν.1 n) : Ct yX4_drawThings cX4_drawThings 2 none 2 ΛX [.ref b] μ (pV fun μ2 => SQ μ2 b (fi12 ν).1 n ∧ Fm (PC b) μ μ2) := by
  refine Ct.go (lo := [some (.ref b), none]) (by decide) (Nat.le_of_ble_eq_true rfl) rfl rfl (fun X F => ?_)
  have F : Fx X cX4_drawThings RX4 2 none ΛX := F
  have hn8 := hS.2
  refine v_iconst (pc := 0) (v := nI 0) F dX4_drawThings_0 (by decide) ?_
  refine v_istore_n (pc := 1) (lo' := [some (.ref _), some (.int _)]) F dX4_drawThings_1 rfl rfl (Nat.le_of_ble_eq_true rfl) rfl ?_
  refine j_up 12 (fun p => ∀ μ' : j_M, (SQ μ' b (fiM ν p).1 n ∧ Fm (PC b) μ μ') → V X _ 2 [some (.ref b), some (.int (nI p))] [] μ') (fun p hp12 ih μ' hI => ?_) 0 (Nat.zero_le _) μ (⟨hS, Fm.rf⟩)
  refine v_iload_n (pc := 2) (i := 1) F dX4_drawThings_2 rfl rfl ?_
  refine v_bipush (pc := 3) (v := nI 12) F dX4_drawThings_3 (by decide) ?_
  refine v_icmp_ge (pc := 5) (tgt := 35) F dX4_drawThings_5 (by decide) (fun h5_1 => ?_) (fun h5_1 => ?_)
  · rw [nI_leI (by omega) (by omega)] at h5_1
    refine v_return (pc := 35) F dX4_drawThings_35 ?_
    have e : p = 12 := by omega
    subst e
    exact hI
  · rw [nI_leI (by omega) (by omega)] at h5_1
    refine v_aload_n (pc := 8) (i := 0) F dX4_drawThings_8 rfl rfl ?_
    refine v_getR (pc := 9) (o := 1) F fX4_9 dX4_drawThings_9 rfl hb ?_
    refine v_topR (y := b + 1) rfl ?_
    refine v_iload_n (pc := 12) (i := 1) F dX4_drawThings_12 rfl rfl ?_
    refine v_ialdN (pc := 13) (k0 := p) F dX4_drawThings_13 (lx4_0 hb) (rfl) (by omega) (by decide) ?_
    refine v_topE (y := ((fiM ν p).1 1 p)) (hI.1.1.srt p (by omega)) ?_
    refine v_iconst (pc := 14) (v := (-1)) F dX4_drawThings_14 (by decide) ?_
    refine v_icmp_ne (pc := 15) (tgt := 29) F dX4_drawThings_15 (by decide) (fun hem => ?_) (fun hem => ?_)
    · skip
      refine v_iinc (pc := 29) (i := 1) (v := nI (p + 1)) (lo' := [some (.ref _), some (.int _)]) F dX4_drawThings_29 rfl (j_inc _) rfl rfl ?_
      refine v_goto (pc := 32) (tgt := 2) F dX4_drawThings_32 (by decide) ?_
      refine ih (by omega) _ ⟨?_, hI.2⟩
      rw [fi_f hem]
      exact hI.1
    · skip
      refine v_aload_n (pc := 18) (i := 0) F dX4_drawThings_18 rfl rfl ?_
      refine v_iload_n (pc := 19) (i := 1) F dX4_drawThings_19 rfl rfl ?_
      refine v_aload_n (pc := 20) (i := 0) F dX4_drawThings_20 rfl rfl ?_
      refine v_bipush (pc := 21) (v := nI 8) F dX4_drawThings_21 (by decide) ?_
      refine v_callVI (pc := 23) (As := [_]) (rest := [_, _]) (c := 4) F mX4_draw kX4_140 im_X4_draw se_X4_draw dX4_drawThings_23 rfl rfl (by decide) (c_X4_draw b hb n (fiM ν p) _ (hI.1) 8 (by decide) (by decide)) (by decide) rfl rfl (Nat.le_of_ble_eq_true rfl) hb (fun x3 μ3 hp3 => ?_)
      rw [hp3.1]
      refine v_callVV (pc := 26) (As := [_, _]) (rest := []) (c := 4) F mX4_put kX4_146 im_X4_put se_X4_put dX4_drawThings_26 rfl rfl (by decide) (c_X4_put b hb n (drM (fiM ν p)).1 _ (hp3.2.1) (WI_dr (WI_fi hW p)).t p (by omega) _ (th_nI (drv_lt (by decide)))) (by decide) rfl rfl (Nat.le_of_ble_eq_true rfl) hb (fun μ4 hp4 => ?_)
      skip
      refine v_iinc (pc := 29) (i := 1) (v := nI (p + 1)) (lo' := [some (.ref _), some (.int _)]) F dX4_drawThings_29 rfl (j_inc _) rfl rfl ?_
      refine v_goto (pc := 32) (tgt := 2) F dX4_drawThings_32 (by decide) ?_
      refine ih (by omega) _ ⟨?_, (hI.2.tr hp3.2.2).tr hp4.2⟩
      rw [fi_t hem]
      exact hp4.1

set_option maxRecDepth 100000 in
theorem c_X9_evening (set : Int32) (μ ν : j_M) (hM : MI ν) (hR : Rel μ ν) : Ct yX9_evening cX9_evening 2 (some .int) 6 ΛX [.ref 0, .int set] μ (pI fun r μ2 => r = (s_evening set ν).1 ∧ Rel μ2 (s_evening set ν).2) := by
  refine Ct.go (lo := [some (.ref 0), some (.int set)]) (by decide) (Nat.le_of_ble_eq_true rfl) rfl rfl (fun X F => ?_)
  have F : Fx X cX9_evening RX9 6 (some .int) ΛX := F
  obtain ⟨n, hW, hsh, htp, him⟩ := id hM
  have hn := hW.1
  have hn8 := hW.2.1
  have hnn := nn_eq hn hn8
  have ho := hW.own
  have hpw := j_pw hn8
  have hS : SQ μ 1 ν.1 n := ⟨by have := hR.sc; rwa [hnn] at this, hn8⟩
  refine v_aload_n (pc := 0) (i := 0) F dX9_evening_0 rfl rfl ?_
  refine v_iload_n (pc := 1) (i := 1) F dX9_evening_1 rfl rfl ?_
  refine v_callVI (pc := 2) (As := [_]) (rest := []) (c := 9) F mX9_isSet kX9_257 im_X9_isSet se_X9_isSet dX9_evening_2 rfl rfl (by decide) (c_X9_isSet _ n ν.1 _ (hS)) (by decide) rfl rfl (Nat.le_of_ble_eq_true rfl) lx0 (fun x1 μ1 hp1 => ?_)
  rw [hp1.1, hp1.2]
  refine v_if_eq (pc := 5) (tgt := 23) F dX9_evening_5 (by decide) (fun h5_2 => ?_) (fun h5_2 => ?_)
  · rw [b2i_0] at h5_2
    refine v_aload_n (pc := 23) (i := 0) F dX9_evening_23 rfl rfl ?_
    refine v_bipush (pc := 24) (v := (-2)) F dX9_evening_24 (by decide) ?_
    refine v_callVI (pc := 26) (As := [_]) (rest := []) (c := 9) F mX9_refuse kX9_79 im_X9_refuse se_X9_refuse dX9_evening_26 rfl rfl (by decide) (c_X9_refuse (-2) 2 (by decide) (by decide) (by decide) _) (by decide) rfl rfl (Nat.le_of_ble_eq_true rfl) lx0 (fun x3 μ3 hp3 => ?_)
    rw [hp3.1, hp3.2]
    refine v_ireturn (pc := 29) F dX9_evening_29 (rfl) ?_
    simp only [s_evening, rj, hnn, h5_2, ↓reduceIte]
    exact ⟨(by first | exact trivial | exact rfl), Rel.rj hM hR (by decide)⟩
  · rw [b2i_0] at h5_2
    rw [Classical.not_not] at h5_2
    refine v_aload_n (pc := 8) (i := 0) F dX9_evening_8 rfl rfl ?_
    refine v_getR (pc := 9) (o := 64) F fX9_25 dX9_evening_9 rfl lx0 ?_
    refine v_topR (y := 64) rfl ?_
    refine v_aload_n (pc := 12) (i := 0) F dX9_evening_12 rfl rfl ?_
    refine v_getR (pc := 13) (o := 1) F fX9_12 dX9_evening_13 rfl lx0 ?_
    refine v_topR (y := 1) rfl ?_
    refine v_iload_n (pc := 16) (i := 1) F dX9_evening_16 rfl rfl ?_
    refine v_callVI (pc := 17) (As := [_, _]) (rest := []) (c := 2) F mX2_runInTruth kX9_365 im_X2_runInTruth se_X2_runInTruth dX9_evening_17 rfl rfl (by decide) (c_X2_runInTruth 64 (lx9_4 lx0) 1 (lx9_0 lx0) n ν _ (hS) hW hnn (by omega) _) (by decide) rfl rfl (Nat.le_of_ble_eq_true rfl) (lx9_4 lx0) (fun x4 μ4 hp4 => ?_)
    rw [hp4.1]
    refine v_goto (pc := 20) (tgt := 29) F dX9_evening_20 (by decide) ?_
    refine v_ireturn (pc := 29) F dX9_evening_29 (rfl) ?_
    simp only [s_evening, hnn, h5_2, ↓reduceIte]
    exact ⟨(by first | exact trivial | exact rfl), hR.wrl hM hp4.2.1 (goes_nn hnn) hp4.2.2 (fun c j z => by omega) goes_W⟩

theorem inB_no {v : Int32} (h : ¬ inB 1 40 v = true) (h1 : ¬ v < nI 1) (h2 : v ≤ nI 40) : False := h (inB_def.mpr ⟨Int32.not_lt.mp h1, h2⟩)

set_option maxRecDepth 100000 in
theorem c_X9_christmases (k0 : Int32) (μ ν : j_M) (hM : MI ν) (hR : Rel μ ν) : Ct yX9_christmases cX9_christmases 4 (some .int) 7 ΛX [.ref 0, .int k0] μ (pI fun r μ2 => r = (s_christmases k0 ν).1 ∧ Rel μ2 (s_christmases k0 ν).2) := by
  refine Ct.go (lo := [some (.ref 0), some (.int k0), none, none]) (by decide) (Nat.le_of_ble_eq_true rfl) rfl rfl (fun X F => ?_)
  have F : Fx X cX9_christmases RX9 7 (some .int) ΛX := F
  obtain ⟨n, hW, hsh, htp, him⟩ := id hM
  have hn := hW.1
  have hn8 := hW.2.1
  have hnn := nn_eq hn hn8
  have ho := hW.own
  have hpw := j_pw hn8
  have hS : SQ μ 1 ν.1 n := ⟨by have := hR.sc; rwa [hnn] at this, hn8⟩
  by_cases hq : inB 1 40 k0 = true
  · skip
    obtain ⟨k, hk1, hk2, rfl⟩ := inB_of (by decide) (by decide) hq
    have ekk : ix (nI k) = k := ix_nI (by omega)
    refine v_iload_n (pc := 0) (i := 1) F dX9_christmases_0 rfl rfl ?_
    refine v_iconst (pc := 1) (v := nI 1) F dX9_christmases_1 (by decide) ?_
    refine v_icmp_lt (pc := 2) (tgt := 11) F dX9_christmases_2 (by decide) (fun h2_1 => ?_) (fun h2_1 => ?_)
    · rw [nI_ltI (by omega) (by omega)] at h2_1
      omega
    · rw [nI_ltI (by omega) (by omega)] at h2_1
      refine v_iload_n (pc := 5) (i := 1) F dX9_christmases_5 rfl rfl ?_
      refine v_bipush (pc := 6) (v := nI 40) F dX9_christmases_6 (by decide) ?_
      refine v_icmp_le (pc := 8) (tgt := 18) F dX9_christmases_8 (by decide) (fun h8_2 => ?_) (fun h8_2 => ?_)
      · rw [nI_leI (by omega) (by omega)] at h8_2
        refine v_iconst (pc := 18) (v := nI 0) F dX9_christmases_18 (by decide) ?_
        refine v_istore_n (pc := 19) (lo' := [some (.ref _), some (.int _), some (.int _), _]) F dX9_christmases_19 rfl rfl (Nat.le_of_ble_eq_true rfl) rfl ?_
        refine v_iconst (pc := 20) (v := nI 0) F dX9_christmases_20 (by decide) ?_
        refine v_istore_n (pc := 21) (lo' := [some (.ref _), some (.int _), some (.int _), some (.int _)]) F dX9_christmases_21 rfl rfl (Nat.le_of_ble_eq_true rfl) rfl ?_
        refine j_up k (fun i => ∀ μ' : j_M, (SQ μ' 1 (chM n ν i).2.1 n ∧ Fm (PCE 1 64) μ μ') → V X _ 22 [some (.ref 0), some (.int (nI k)), some (.int ((chM n ν i).1)), some (.int (nI i))] [] μ') (fun i hik ih μ' hI => ?_) 0 (Nat.zero_le _) μ ⟨hS, Fm.rf⟩
        obtain ⟨hWi, hni, hFi⟩ := ch_all hW hnn i
        refine v_iload_n (pc := 22) (i := 3) F dX9_christmases_22 rfl rfl ?_
        refine v_iload_n (pc := 23) (i := 1) F dX9_christmases_23 rfl rfl ?_
        refine v_icmp_ge (pc := 24) (tgt := 61) F dX9_christmases_24 (by decide) (fun h24_3 => ?_) (fun h24_3 => ?_)
        · rw [nI_leI (by omega) (by omega)] at h24_3
          refine v_iload_n (pc := 61) (i := 2) F dX9_christmases_61 rfl rfl ?_
          refine v_ireturn (pc := 62) F dX9_christmases_62 (rfl) ?_
          have e : i = k := by omega
          subst e
          simp only [s_christmases, hnn, hq, ekk, h2_1, h8_2, h24_3, ↓reduceIte]
          exact ⟨(by first | exact trivial | exact rfl), hR.wrl hM hI.1 hni hI.2 (fun c j z => by omega) hFi⟩
        · rw [nI_leI (by omega) (by omega)] at h24_3
          refine v_iload_n (pc := 27) (i := 2) F dX9_christmases_27 rfl rfl ?_
          refine v_aload_n (pc := 28) (i := 0) F dX9_christmases_28 rfl rfl ?_
          refine v_getR (pc := 29) (o := 64) F fX9_25 dX9_christmases_29 rfl lx0 ?_
          refine v_topR (y := 64) rfl ?_
          refine v_aload_n (pc := 32) (i := 0) F dX9_christmases_32 rfl rfl ?_
          refine v_getR (pc := 33) (o := 1) F fX9_12 dX9_christmases_33 rfl lx0 ?_
          refine v_topR (y := 1) rfl ?_
          refine v_aload_n (pc := 36) (i := 0) F dX9_christmases_36 rfl rfl ?_
          refine v_getR (pc := 37) (o := 1) F fX9_12 dX9_christmases_37 rfl lx0 ?_
          refine v_topR (y := 1) rfl ?_
          refine v_callVI (pc := 40) (As := []) (rest := [_, _, _]) (c := 4) F mX4_drawWhoCome kX9_368 im_X4_drawWhoCome se_X4_drawWhoCome dX9_christmases_40 rfl rfl (by decide) (c_X4_drawWhoCome 1 (lx9_0 lx0) n (chM n ν i).2 _ hI.1) (by decide) rfl rfl (Nat.le_of_ble_eq_true rfl) (lx9_0 lx0) (fun x4 μ4 hp4 => ?_)
          rw [hp4.1]
          refine v_callVI (pc := 43) (As := [_, _]) (rest := [_]) (c := 2) F mX2_runInTruth kX9_365 im_X2_runInTruth se_X2_runInTruth dX9_christmases_43 rfl rfl (by decide) (c_X2_runInTruth 64 (lx9_4 lx0) 1 (lx9_0 lx0) n (cmS (chM n ν i).2 n).2 _ (hp4.2.1) (WI_cm hWi n) ((nn_cm n).trans hni) (by omega) _) (by decide) rfl rfl (Nat.le_of_ble_eq_true rfl) (lx9_4 lx0) (fun x5 μ5 hp5 => ?_)
          rw [hp5.1]
          refine v_iadd (pc := 46) F dX9_christmases_46 ?_
          refine v_istore_n (pc := 47) (lo' := [some (.ref _), some (.int _), some (.int _), some (.int _)]) F dX9_christmases_47 rfl rfl (Nat.le_of_ble_eq_true rfl) rfl ?_
          refine v_aload_n (pc := 48) (i := 0) F dX9_christmases_48 rfl rfl ?_
          refine v_getR (pc := 49) (o := 1) F fX9_12 dX9_christmases_49 rfl lx0 ?_
          refine v_topR (y := 1) rfl ?_
          refine v_callVV (pc := 52) (As := []) (rest := []) (c := 4) F mX4_drawThings kX9_371 im_X4_drawThings se_X4_drawThings dX9_christmases_52 rfl rfl (by decide) (c_X4_drawThings 1 (lx9_0 lx0) n (s_goes (cmS (chM n ν i).2 n).1 (cmS (chM n ν i).2 n).2).2 _ hp5.2.1 (WI_goes (WI_cm hWi n) ((nn_cm n).trans hni))) (by decide) rfl rfl (Nat.le_of_ble_eq_true rfl) (lx9_0 lx0) (fun μ6 hp6 => ?_)
          skip
          refine v_iinc (pc := 55) (i := 3) (v := nI (i + 1)) (lo' := [some (.ref _), some (.int _), some (.int _), some (.int _)]) F dX9_christmases_55 rfl (j_inc _) rfl rfl ?_
          refine v_goto (pc := 58) (tgt := 22) F dX9_christmases_58 (by decide) ?_
          have q := ih (by omega)
          rw [ch_1, ch_2] at q
          exact q _ ⟨hp6.1, ((hI.2.tr (hp4.2.2.mono (fun c j z => by omega))).tr hp5.2.2).tr (hp6.2.mono (fun c j z => by omega))⟩
      · rw [nI_leI (by omega) (by omega)] at h8_2
        omega
  · skip
    refine v_iload_n (pc := 0) (i := 1) F dX9_christmases_0 rfl rfl ?_
    refine v_iconst (pc := 1) (v := nI 1) F dX9_christmases_1 (by decide) ?_
    refine v_icmp_lt (pc := 2) (tgt := 11) F dX9_christmases_2 (by decide) (fun hneg => ?_) (fun hneg => ?_)
    · skip
      refine v_aload_n (pc := 11) (i := 0) F dX9_christmases_11 rfl rfl ?_
      refine v_bipush (pc := 12) (v := (-2)) F dX9_christmases_12 (by decide) ?_
      refine v_callVI (pc := 14) (As := [_]) (rest := []) (c := 9) F mX9_refuse kX9_79 im_X9_refuse se_X9_refuse dX9_christmases_14 rfl rfl (by decide) (c_X9_refuse (-2) 2 (by decide) (by decide) (by decide) _) (by decide) rfl rfl (Nat.le_of_ble_eq_true rfl) lx0 (fun x8 μ8 hp8 => ?_)
      rw [hp8.1, hp8.2]
      refine v_ireturn (pc := 17) F dX9_christmases_17 (rfl) ?_
      simp only [s_christmases, rj, hnn, hq, hneg, ↓reduceIte]
      refine ⟨?_, ?_⟩ <;> first | exact trivial | exact rfl | exact hR | exact Rel.rj hM hR (by decide)
    · skip
      refine v_iload_n (pc := 5) (i := 1) F dX9_christmases_5 rfl rfl ?_
      refine v_bipush (pc := 6) (v := nI 40) F dX9_christmases_6 (by decide) ?_
      refine v_icmp_le (pc := 8) (tgt := 18) F dX9_christmases_8 (by decide) (fun h8_9 => ?_) (fun h8_9 => ?_)
      · skip
        exact (inB_no hq hneg h8_9).elim
      · skip
        refine v_aload_n (pc := 11) (i := 0) F dX9_christmases_11 rfl rfl ?_
        refine v_bipush (pc := 12) (v := (-2)) F dX9_christmases_12 (by decide) ?_
        refine v_callVI (pc := 14) (As := [_]) (rest := []) (c := 9) F mX9_refuse kX9_79 im_X9_refuse se_X9_refuse dX9_christmases_14 rfl rfl (by decide) (c_X9_refuse (-2) 2 (by decide) (by decide) (by decide) _) (by decide) rfl rfl (Nat.le_of_ble_eq_true rfl) lx0 (fun x10 μ10 hp10 => ?_)
        rw [hp10.1, hp10.2]
        refine v_ireturn (pc := 17) F dX9_christmases_17 (rfl) ?_
        simp only [s_christmases, rj, hnn, hq, hneg, h8_9, ↓reduceIte]
        refine ⟨?_, ?_⟩ <;> first | exact trivial | exact rfl | exact hR | exact Rel.rj hM hR (by decide)
