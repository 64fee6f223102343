/-! the class: statements -/
abbrev PSS (x b c j : Nat) : Prop := PTP x c j ∨ PC b c j
def RD (o : Sum Nat (Nat × j_M)) (x b : Nat) (μ μ2 : j_M) : Prop := Fm (PSS x b) μ μ2 ∧ match o with
  | .inl g => μ2.1 x 3 = nI g
  | .inr q => μ2.1 x 3 = -1 ∧ μ2.1 x 2 = nI q.1 ∧ SQ μ2 b q.2.1 (nn q.2)
theorem nn_pI {ν : j_M} {c j : Nat} {v : Int32} (h : ¬ c = 0) : nn (j_pI ν c j v) = nn ν := by
  show ix ((j_pI ν c j v).1 0 1) = _
  rw [j_pI_off (by omega)]
theorem j_wn {n : Nat} (hn : n ≤ 8) (v : Int32) : (nI 0 ≤ v ∧ v ≤ nI n - nI 1) = (inQ n v = true) := by
  rcases n with _ | n
  · refine propext ⟨fun h => ?_, fun h => ?_⟩
    · have h2 := Int32.le_trans h.1 h.2
      exact absurd h2 (by decide)
    · obtain ⟨k, hk, -⟩ := inR_of (by decide) h
      omega
  · rw [pk_sub (by omega)]
    exact j_wi (by omega) (by omega)
theorem nb1_n {t : Nat → Int32} {n e M : Nat} {F : Nat → j_M} (h : nbr t n e M = none) : nb1 t n e M F = .inl (tkF t n e) := by unfold nb1; rw [h]
theorem nb1_y {t : Nat → Int32} {n e M x : Nat} {F : Nat → j_M} (h : nbr t n e M = some x) : nb1 t n e M F = .inr (tkT t n e, F x) := by unfold nb1; rw [h]
theorem nb2_n {t : Nat → Int32} {n e M N : Nat} {F : Nat → Nat → j_M} (h : nbr t n e M = none) : nb2 t n e M N F = .inl (tkF t n e) := by unfold nb2; rw [h]
theorem nb2_y {t : Nat → Int32} {n e M N x : Nat} {F : Nat → Nat → j_M} (h : nbr t n e M = some x) : nb2 t n e M N F = nb1 t n (tkT t n e) N (F x) := by unfold nb2; rw [h]
theorem nb3_n {t : Nat → Int32} {n e M N K : Nat} {F : Nat → Nat → Nat → j_M} (h : nbr t n e M = none) : nb3 t n e M N K F = .inl (tkF t n e) := by unfold nb3; rw [h]
theorem nb3_y {t : Nat → Int32} {n e M N K x : Nat} {F : Nat → Nat → Nat → j_M} (h : nbr t n e M = some x) : nb3 t n e M N K F = nb2 t n (tkT t n e) N K (F x) := by unfold nb3; rw [h]
theorem RD.no {g x b : Nat} {μ μ2 : j_M} (h1 : μ2.1 x 3 = nI g) (h2 : Fm (PTP x) μ μ2) : RD (.inl g) x b μ μ2 := ⟨h2.mono (fun c j z => Or.inl z), h1⟩

set_option maxRecDepth 100000 in
theorem c_X7_readPlace (x : Nat) (hx : j_ob ΛX x 7) (b : Nat) (hb4 : j_ob ΛX b 4) (hxb : x + 2 ≤ b ∨ b + 21 ≤ x) (tp : Nat → Int32) (t e : Nat) (μ ν : j_M) (hb_0 : ∀ j, j < t → μ.1 (x + 1) j = tp j) (ht_0 : μ.1 x 1 = nI t) (ht2 : t ≤ 250) (ha_0 : μ.1 x 2 = nI e) (hat_0 : e ≤ t) (hfl_0 : μ.1 x 3 = -1) (hS : SQ μ b ν.1 (nn ν)) (hTH : ∀ p, p < 12 → TH (ν.1 1 p))  : Ct yX7_readPlace cX7_readPlace 4 none 4 ΛX [.ref x, .ref b] μ (pV fun μ2 => RD (nb2 tp t e 12 8 (fun p v => j_pI ν 1 p (nI v))) x b μ μ2) := by
  refine Ct.go (lo := [some (.ref x), some (.ref b), none, none]) (by decide) (Nat.le_of_ble_eq_true rfl) rfl rfl (fun X F => ?_)
  have F : Fx X cX7_readPlace RX7 4 none ΛX := F
  have hn8 := hS.2
  have hF_0 : Fm (PTP x) μ μ := Fm.rf
  refine v_aload_n (pc := 0) (i := 0) F dX7_readPlace_0 rfl rfl ?_
  refine v_bipush (pc := 1) (v := nI 11) F dX7_readPlace_1 (by decide) ?_
  refine v_callVI (pc := 3) (As := [_]) (rest := []) (c := 7) F mX7_readNumber kX7_59 im_X7_readNumber se_X7_readNumber dX7_readPlace_3 rfl rfl (by decide) (c_X7_readNumber x hx tp t e _ hb_0 ht_0 ht2 ha_0 hat_0 _ 12 (fun v => j_wi rfl (by decide)) (by omega) hfl_0) (by decide) rfl rfl (Nat.le_of_ble_eq_true rfl) hx (fun x1 μ1 hp1 => ?_)
  skip
  rcases hn_0 : nbr tp t e 12 with _ | p
  · skip
    have hq := hp1
    unfold NBP at hq
    rw [hn_0] at hq
    obtain ⟨q1, hgb, q3⟩ := hq
    rw [q1]
    have hfb := (tkF_le (t := tp) hat_0).2
    have hFb : Fm (PTP x) μ μ1 := hF_0.tr q3
    refine v_istore_n (pc := 6) (lo' := [some (.ref _), some (.ref _), some (.int _), _]) F dX7_readPlace_6 rfl rfl (Nat.le_of_ble_eq_true rfl) rfl ?_
    refine v_aload_n (pc := 7) (i := 0) F dX7_readPlace_7 rfl rfl ?_
    refine v_bipush (pc := 8) (v := nI 7) F dX7_readPlace_8 (by decide) ?_
    refine v_callVI (pc := 10) (As := [_]) (rest := []) (c := 7) F mX7_readNumber kX7_59 im_X7_readNumber se_X7_readNumber dX7_readPlace_10 rfl rfl (by decide) (c_X7_readNumberF x hx _ (tkF tp t e) _ (by have := tkF_le (t := tp) hat_0; omega) hgb) (by decide) rfl rfl (Nat.le_of_ble_eq_true rfl) hx (fun x2 μ2 hp2 => ?_)
    rw [hp2.1, hp2.2]
    refine v_istore_n (pc := 13) (lo' := [some (.ref _), some (.ref _), some (.int _), some (.int _)]) F dX7_readPlace_13 rfl rfl (Nat.le_of_ble_eq_true rfl) rfl ?_
    refine v_aload_n (pc := 14) (i := 0) F dX7_readPlace_14 rfl rfl ?_
    refine v_getI (pc := 15) F fX7_15 dX7_readPlace_15 rfl hx ?_
    refine v_topE (y := nI (tkF tp t e)) (hgb) ?_
    refine v_iconst (pc := 18) (v := (-1)) F dX7_readPlace_18 (by decide) ?_
    refine v_icmp_ne (pc := 19) (tgt := 28) F dX7_readPlace_19 (by decide) (fun h19_3 => ?_) (fun h19_3 => ?_)
    · rw [j_nm1 (by omega)] at h19_3
      refine v_return (pc := 28) F dX7_readPlace_28 ?_
      rw [nb2_n hn_0]
      exact RD.no hgb hFb
    · rw [j_nm1 (by omega)] at h19_3
      exact h19_3.elim
  · skip
    have hq := hp1
    unfold NBP at hq
    rw [hn_0] at hq
    obtain ⟨q1, hp_lt, ha_1, q3⟩ := hq
    rw [q1]
    have hF_1 : Fm (PTP x) μ μ1 := hF_0.tr (q3.mono (fun c j z => by omega))
    have htl := tkT_le (t := tp) hat_0
    have hat_1 : (tkT tp t e) ≤ t := htl.2
    have hb_1 : ∀ j, j < t → μ1.1 (x + 1) j = tp j := fun j hj => (hF_1.1 _ _ (by omega)).trans (hb_0 j hj)
    have ht_1 : μ1.1 x 1 = nI t := (hF_1.1 _ _ (by omega)).trans ht_0
    have hfl_1 : μ1.1 x 3 = -1 := (q3.1 _ _ (by omega)).trans hfl_0
    have hS_1 : SQ μ1 b ν.1 (nn ν) := SQ_F hS hF_1 (fun c j z => by omega)
    refine v_istore_n (pc := 6) (lo' := [some (.ref _), some (.ref _), some (.int _), _]) F dX7_readPlace_6 rfl rfl (Nat.le_of_ble_eq_true rfl) rfl ?_
    refine v_aload_n (pc := 7) (i := 0) F dX7_readPlace_7 rfl rfl ?_
    refine v_bipush (pc := 8) (v := nI 7) F dX7_readPlace_8 (by decide) ?_
    refine v_callVI (pc := 10) (As := [_]) (rest := []) (c := 7) F mX7_readNumber kX7_59 im_X7_readNumber se_X7_readNumber dX7_readPlace_10 rfl rfl (by decide) (c_X7_readNumber x hx tp t (tkT tp t e) _ hb_1 ht_1 ht2 ha_1 hat_1 _ 8 (fun v => j_wi rfl (by decide)) (by omega) hfl_1) (by decide) rfl rfl (Nat.le_of_ble_eq_true rfl) hx (fun x4 μ4 hp4 => ?_)
    skip
    rcases hn_1 : nbr tp t (tkT tp t e) 8 with _ | v
    · skip
      have hq := hp4
      unfold NBP at hq
      rw [hn_1] at hq
      obtain ⟨q1, hgb, q3⟩ := hq
      rw [q1]
      have hfb := (tkF_le (t := tp) hat_1).2
      have hFb : Fm (PTP x) μ μ4 := hF_1.tr q3
      refine v_istore_n (pc := 13) (lo' := [some (.ref _), some (.ref _), some (.int _), some (.int _)]) F dX7_readPlace_13 rfl rfl (Nat.le_of_ble_eq_true rfl) rfl ?_
      refine v_aload_n (pc := 14) (i := 0) F dX7_readPlace_14 rfl rfl ?_
      refine v_getI (pc := 15) F fX7_15 dX7_readPlace_15 rfl hx ?_
      refine v_topE (y := nI (tkF tp t (tkT tp t e))) (hgb) ?_
      refine v_iconst (pc := 18) (v := (-1)) F dX7_readPlace_18 (by decide) ?_
      refine v_icmp_ne (pc := 19) (tgt := 28) F dX7_readPlace_19 (by decide) (fun h19_5 => ?_) (fun h19_5 => ?_)
      · rw [j_nm1 (by omega)] at h19_5
        refine v_return (pc := 28) F dX7_readPlace_28 ?_
        rw [nb2_y hn_0]
        rw [nb1_n hn_1]
        exact RD.no hgb hFb
      · rw [j_nm1 (by omega)] at h19_5
        exact h19_5.elim
    · skip
      have hq := hp4
      unfold NBP at hq
      rw [hn_1] at hq
      obtain ⟨q1, hv_lt, ha_2, q3⟩ := hq
      rw [q1]
      have hF_2 : Fm (PTP x) μ μ4 := hF_1.tr (q3.mono (fun c j z => by omega))
      have htl := tkT_le (t := tp) hat_1
      have hat_2 : (tkT tp t (tkT tp t e)) ≤ t := htl.2
      have hb_2 : ∀ j, j < t → μ4.1 (x + 1) j = tp j := fun j hj => (hF_2.1 _ _ (by omega)).trans (hb_0 j hj)
      have ht_2 : μ4.1 x 1 = nI t := (hF_2.1 _ _ (by omega)).trans ht_0
      have hfl_2 : μ4.1 x 3 = -1 := (q3.1 _ _ (by omega)).trans hfl_1
      have hS_2 : SQ μ4 b ν.1 (nn ν) := SQ_F hS hF_2 (fun c j z => by omega)
      refine v_istore_n (pc := 13) (lo' := [some (.ref _), some (.ref _), some (.int _), some (.int _)]) F dX7_readPlace_13 rfl rfl (Nat.le_of_ble_eq_true rfl) rfl ?_
      refine v_aload_n (pc := 14) (i := 0) F dX7_readPlace_14 rfl rfl ?_
      refine v_getI (pc := 15) F fX7_15 dX7_readPlace_15 rfl hx ?_
      refine v_topE (y := (-1)) (hfl_2) ?_
      refine v_iconst (pc := 18) (v := (-1)) F dX7_readPlace_18 (by decide) ?_
      refine v_icmp_ne (pc := 19) (tgt := 28) F dX7_readPlace_19 (by decide) (fun h19_6 => ?_) (fun h19_6 => ?_)
      · skip
        exact absurd rfl h19_6
      · skip
        refine v_aload_n (pc := 22) (i := 1) F dX7_readPlace_22 rfl rfl ?_
        refine v_iload_n (pc := 23) (i := 2) F dX7_readPlace_23 rfl rfl ?_
        refine v_iload_n (pc := 24) (i := 3) F dX7_readPlace_24 rfl rfl ?_
        refine v_callVV (pc := 25) (As := [_, _]) (rest := []) (c := 4) F mX4_put kX7_63 im_X4_put se_X4_put dX7_readPlace_25 rfl rfl (by decide) (c_X4_put b hb4 (nn ν) ν.1 _ hS_2 hTH p hp_lt (nI v) (Or.inr ⟨v, hv_lt, rfl⟩)) (by decide) rfl rfl (Nat.le_of_ble_eq_true rfl) hb4 (fun μ7 hp7 => ?_)
        skip
        refine v_return (pc := 28) F dX7_readPlace_28 ?_
        rw [nb2_y hn_0]
        rw [nb1_y hn_1]
        refine ⟨(hF_2.mono (fun c j z => Or.inl z)).tr (hp7.2.mono (fun c j z => Or.inr z)), ?_, ?_, ?_⟩
        · exact (hp7.2.1 _ _ (by omega)).trans hfl_2
        · exact (hp7.2.1 _ _ (by omega)).trans ha_2
        · have q := hp7.1; rw [nn_pI (by decide)]; exact q

set_option maxRecDepth 100000 in
theorem c_X7_readClear (x : Nat) (hx : j_ob ΛX x 7) (b : Nat) (hb4 : j_ob ΛX b 4) (hxb : x + 2 ≤ b ∨ b + 21 ≤ x) (tp : Nat → Int32) (t e : Nat) (μ ν : j_M) (hb_0 : ∀ j, j < t → μ.1 (x + 1) j = tp j) (ht_0 : μ.1 x 1 = nI t) (ht2 : t ≤ 250) (ha_0 : μ.1 x 2 = nI e) (hat_0 : e ≤ t) (hfl_0 : μ.1 x 3 = -1) (hS : SQ μ b ν.1 (nn ν)) (hTH : ∀ p, p < 12 → TH (ν.1 1 p))  : Ct yX7_readClear cX7_readClear 3 none 4 ΛX [.ref x, .ref b] μ (pV fun μ2 => RD (nb1 tp t e 12 (fun p => j_pI ν 1 p (-1))) x b μ μ2) := by
  refine Ct.go (lo := [some (.ref x), some (.ref b), none]) (by decide) (Nat.le_of_ble_eq_true rfl) rfl rfl (fun X F => ?_)
  have F : Fx X cX7_readClear RX7 4 none ΛX := F
  have hn8 := hS.2
  have hF_0 : Fm (PTP x) μ μ := Fm.rf
  refine v_aload_n (pc := 0) (i := 0) F dX7_readClear_0 rfl rfl ?_
  refine v_bipush (pc := 1) (v := nI 11) F dX7_readClear_1 (by decide) ?_
  refine v_callVI (pc := 3) (As := [_]) (rest := []) (c := 7) F mX7_readNumber kX7_59 im_X7_readNumber se_X7_readNumber dX7_readClear_3 rfl rfl (by decide) (c_X7_readNumber x hx tp t e _ hb_0 ht_0 ht2 ha_0 hat_0 _ 12 (fun v => j_wi rfl (by decide)) (by omega) hfl_0) (by decide) rfl rfl (Nat.le_of_ble_eq_true rfl) hx (fun x1 μ1 hp1 => ?_)
  skip
  rcases hn_0 : nbr tp t e 12 with _ | p
  · skip
    have hq := hp1
    unfold NBP at hq
    rw [hn_0] at hq
    obtain ⟨q1, hgb, q3⟩ := hq
    rw [q1]
    have hfb := (tkF_le (t := tp) hat_0).2
    have hFb : Fm (PTP x) μ μ1 := hF_0.tr q3
    refine v_istore_n (pc := 6) (lo' := [some (.ref _), some (.ref _), some (.int _)]) F dX7_readClear_6 rfl rfl (Nat.le_of_ble_eq_true rfl) rfl ?_
    refine v_aload_n (pc := 7) (i := 0) F dX7_readClear_7 rfl rfl ?_
    refine v_getI (pc := 8) F fX7_15 dX7_readClear_8 rfl hx ?_
    refine v_topE (y := nI (tkF tp t e)) (hgb) ?_
    refine v_iconst (pc := 11) (v := (-1)) F dX7_readClear_11 (by decide) ?_
    refine v_icmp_ne (pc := 12) (tgt := 21) F dX7_readClear_12 (by decide) (fun h12_2 => ?_) (fun h12_2 => ?_)
    · rw [j_nm1 (by omega)] at h12_2
      refine v_return (pc := 21) F dX7_readClear_21 ?_
      rw [nb1_n hn_0]
      exact RD.no hgb hFb
    · rw [j_nm1 (by omega)] at h12_2
      exact h12_2.elim
  · skip
    have hq := hp1
    unfold NBP at hq
    rw [hn_0] at hq
    obtain ⟨q1, hp_lt, ha_1, q3⟩ := hq
    rw [q1]
    have hF_1 : Fm (PTP x) μ μ1 := hF_0.tr (q3.mono (fun c j z => by omega))
    have htl := tkT_le (t := tp) hat_0
    have hat_1 : (tkT tp t e) ≤ t := htl.2
    have hb_1 : ∀ j, j < t → μ1.1 (x + 1) j = tp j := fun j hj => (hF_1.1 _ _ (by omega)).trans (hb_0 j hj)
    have ht_1 : μ1.1 x 1 = nI t := (hF_1.1 _ _ (by omega)).trans ht_0
    have hfl_1 : μ1.1 x 3 = -1 := (q3.1 _ _ (by omega)).trans hfl_0
    have hS_1 : SQ μ1 b ν.1 (nn ν) := SQ_F hS hF_1 (fun c j z => by omega)
    refine v_istore_n (pc := 6) (lo' := [some (.ref _), some (.ref _), some (.int _)]) F dX7_readClear_6 rfl rfl (Nat.le_of_ble_eq_true rfl) rfl ?_
    refine v_aload_n (pc := 7) (i := 0) F dX7_readClear_7 rfl rfl ?_
    refine v_getI (pc := 8) F fX7_15 dX7_readClear_8 rfl hx ?_
    refine v_topE (y := (-1)) (hfl_1) ?_
    refine v_iconst (pc := 11) (v := (-1)) F dX7_readClear_11 (by decide) ?_
    refine v_icmp_ne (pc := 12) (tgt := 21) F dX7_readClear_12 (by decide) (fun h12_3 => ?_) (fun h12_3 => ?_)
    · skip
      exact absurd rfl h12_3
    · skip
      refine v_aload_n (pc := 15) (i := 1) F dX7_readClear_15 rfl rfl ?_
      refine v_iload_n (pc := 16) (i := 2) F dX7_readClear_16 rfl rfl ?_
      refine v_iconst (pc := 17) (v := (-1)) F dX7_readClear_17 (by decide) ?_
      refine v_callVV (pc := 18) (As := [_, _]) (rest := []) (c := 4) F mX4_put kX7_63 im_X4_put se_X4_put dX7_readClear_18 rfl rfl (by decide) (c_X4_put b hb4 (nn ν) ν.1 _ hS_1 hTH p hp_lt (-1) (Or.inl rfl)) (by decide) rfl rfl (Nat.le_of_ble_eq_true rfl) hb4 (fun μ4 hp4 => ?_)
      skip
      refine v_return (pc := 21) F dX7_readClear_21 ?_
      rw [nb1_y hn_0]
      refine ⟨(hF_1.mono (fun c j z => Or.inl z)).tr (hp4.2.mono (fun c j z => Or.inr z)), ?_, ?_, ?_⟩
      · exact (hp4.2.1 _ _ (by omega)).trans hfl_1
      · exact (hp4.2.1 _ _ (by omega)).trans ha_1
      · have q := hp4.1; rw [nn_pI (by decide)]; exact q

set_option maxRecDepth 100000 in
theorem c_X7_readLikes (x : Nat) (hx : j_ob ΛX x 7) (b : Nat) (hb4 : j_ob ΛX b 4) (hxb : x + 2 ≤ b ∨ b + 21 ≤ x) (tp : Nat → Int32) (t e : Nat) (μ ν : j_M) (hb_0 : ∀ j, j < t → μ.1 (x + 1) j = tp j) (ht_0 : μ.1 x 1 = nI t) (ht2 : t ≤ 250) (ha_0 : μ.1 x 2 = nI e) (hat_0 : e ≤ t) (hfl_0 : μ.1 x 3 = -1) (hS : SQ μ b ν.1 (nn ν)) (hTH : ∀ p, p < 12 → TH (ν.1 1 p))  : Ct yX7_readLikes cX7_readLikes 4 none 4 ΛX [.ref x, .ref b] μ (pV fun μ2 => RD (nb2 tp t e (nn ν) 8 (fun p v => j_pI ν 5 p (ν.1 5 p ||| ((1 : Int32) <<< (nI v &&& 31))))) x b μ μ2) := by
  refine Ct.go (lo := [some (.ref x), some (.ref b), none, none]) (by decide) (Nat.le_of_ble_eq_true rfl) rfl rfl (fun X F => ?_)
  have F : Fx X cX7_readLikes RX7 4 none ΛX := F
  have hn8 := hS.2
  have hF_0 : Fm (PTP x) μ μ := Fm.rf
  refine v_aload_n (pc := 0) (i := 0) F dX7_readLikes_0 rfl rfl ?_
  refine v_aload_n (pc := 1) (i := 1) F dX7_readLikes_1 rfl rfl ?_
  refine v_getI (pc := 2) F fX7_76 dX7_readLikes_2 rfl hb4 ?_
  refine v_topE (y := nI ((nn ν))) (hS.1.cnt) ?_
  refine v_iconst (pc := 5) (v := nI 1) F dX7_readLikes_5 (by decide) ?_
  refine v_isub (pc := 6) F dX7_readLikes_6 ?_
  refine v_callVI (pc := 7) (As := [_]) (rest := []) (c := 7) F mX7_readNumber kX7_59 im_X7_readNumber se_X7_readNumber dX7_readLikes_7 rfl rfl (by decide) (c_X7_readNumber x hx tp t e _ hb_0 ht_0 ht2 ha_0 hat_0 _ (nn ν) (j_wn hn8) (by omega) hfl_0) (by decide) rfl rfl (Nat.le_of_ble_eq_true rfl) hx (fun x1 μ1 hp1 => ?_)
  skip
  rcases hn_0 : nbr tp t e (nn ν) with _ | p
  · skip
    have hq := hp1
    unfold NBP at hq
    rw [hn_0] at hq
    obtain ⟨q1, hgb, q3⟩ := hq
    rw [q1]
    have hfb := (tkF_le (t := tp) hat_0).2
    have hFb : Fm (PTP x) μ μ1 := hF_0.tr q3
    refine v_istore_n (pc := 10) (lo' := [some (.ref _), some (.ref _), some (.int _), _]) F dX7_readLikes_10 rfl rfl (Nat.le_of_ble_eq_true rfl) rfl ?_
    refine v_aload_n (pc := 11) (i := 0) F dX7_readLikes_11 rfl rfl ?_
    refine v_bipush (pc := 12) (v := nI 7) F dX7_readLikes_12 (by decide) ?_
    refine v_callVI (pc := 14) (As := [_]) (rest := []) (c := 7) F mX7_readNumber kX7_59 im_X7_readNumber se_X7_readNumber dX7_readLikes_14 rfl rfl (by decide) (c_X7_readNumberF x hx _ (tkF tp t e) _ (by have := tkF_le (t := tp) hat_0; omega) hgb) (by decide) rfl rfl (Nat.le_of_ble_eq_true rfl) hx (fun x2 μ2 hp2 => ?_)
    rw [hp2.1, hp2.2]
    refine v_istore_n (pc := 17) (lo' := [some (.ref _), some (.ref _), some (.int _), some (.int _)]) F dX7_readLikes_17 rfl rfl (Nat.le_of_ble_eq_true rfl) rfl ?_
    refine v_aload_n (pc := 18) (i := 0) F dX7_readLikes_18 rfl rfl ?_
    refine v_getI (pc := 19) F fX7_15 dX7_readLikes_19 rfl hx ?_
    refine v_topE (y := nI (tkF tp t e)) (hgb) ?_
    refine v_iconst (pc := 22) (v := (-1)) F dX7_readLikes_22 (by decide) ?_
    refine v_icmp_ne (pc := 23) (tgt := 37) F dX7_readLikes_23 (by decide) (fun h23_3 => ?_) (fun h23_3 => ?_)
    · rw [j_nm1 (by omega)] at h23_3
      refine v_return (pc := 37) F dX7_readLikes_37 ?_
      rw [nb2_n hn_0]
      exact RD.no hgb hFb
    · rw [j_nm1 (by omega)] at h23_3
      exact h23_3.elim
  · skip
    have hq := hp1
    unfold NBP at hq
    rw [hn_0] at hq
    obtain ⟨q1, hp_lt, ha_1, q3⟩ := hq
    rw [q1]
    have hF_1 : Fm (PTP x) μ μ1 := hF_0.tr (q3.mono (fun c j z => by omega))
    have htl := tkT_le (t := tp) hat_0
    have hat_1 : (tkT tp t e) ≤ t := htl.2
    have hb_1 : ∀ j, j < t → μ1.1 (x + 1) j = tp j := fun j hj => (hF_1.1 _ _ (by omega)).trans (hb_0 j hj)
    have ht_1 : μ1.1 x 1 = nI t := (hF_1.1 _ _ (by omega)).trans ht_0
    have hfl_1 : μ1.1 x 3 = -1 := (q3.1 _ _ (by omega)).trans hfl_0
    have hS_1 : SQ μ1 b ν.1 (nn ν) := SQ_F hS hF_1 (fun c j z => by omega)
    refine v_istore_n (pc := 10) (lo' := [some (.ref _), some (.ref _), some (.int _), _]) F dX7_readLikes_10 rfl rfl (Nat.le_of_ble_eq_true rfl) rfl ?_
    refine v_aload_n (pc := 11) (i := 0) F dX7_readLikes_11 rfl rfl ?_
    refine v_bipush (pc := 12) (v := nI 7) F dX7_readLikes_12 (by decide) ?_
    refine v_callVI (pc := 14) (As := [_]) (rest := []) (c := 7) F mX7_readNumber kX7_59 im_X7_readNumber se_X7_readNumber dX7_readLikes_14 rfl rfl (by decide) (c_X7_readNumber x hx tp t (tkT tp t e) _ hb_1 ht_1 ht2 ha_1 hat_1 _ 8 (fun v => j_wi rfl (by decide)) (by omega) hfl_1) (by decide) rfl rfl (Nat.le_of_ble_eq_true rfl) hx (fun x4 μ4 hp4 => ?_)
    skip
    rcases hn_1 : nbr tp t (tkT tp t e) 8 with _ | v
    · skip
      have hq := hp4
      unfold NBP at hq
      rw [hn_1] at hq
      obtain ⟨q1, hgb, q3⟩ := hq
      rw [q1]
      have hfb := (tkF_le (t := tp) hat_1).2
      have hFb : Fm (PTP x) μ μ4 := hF_1.tr q3
      refine v_istore_n (pc := 17) (lo' := [some (.ref _), some (.ref _), some (.int _), some (.int _)]) F dX7_readLikes_17 rfl rfl (Nat.le_of_ble_eq_true rfl) rfl ?_
      refine v_aload_n (pc := 18) (i := 0) F dX7_readLikes_18 rfl rfl ?_
      refine v_getI (pc := 19) F fX7_15 dX7_readLikes_19 rfl hx ?_
      refine v_topE (y := nI (tkF tp t (tkT tp t e))) (hgb) ?_
      refine v_iconst (pc := 22) (v := (-1)) F dX7_readLikes_22 (by decide) ?_
      refine v_icmp_ne (pc := 23) (tgt := 37) F dX7_readLikes_23 (by decide) (fun h23_5 => ?_) (fun h23_5 => ?_)
      · rw [j_nm1 (by omega)] at h23_5
        refine v_return (pc := 37) F dX7_readLikes_37 ?_
        rw [nb2_y hn_0]
        rw [nb1_n hn_1]
        exact RD.no hgb hFb
      · rw [j_nm1 (by omega)] at h23_5
        exact h23_5.elim
    · skip
      have hq := hp4
      unfold NBP at hq
      rw [hn_1] at hq
      obtain ⟨q1, hv_lt, ha_2, q3⟩ := hq
      rw [q1]
      have hF_2 : Fm (PTP x) μ μ4 := hF_1.tr (q3.mono (fun c j z => by omega))
      have htl := tkT_le (t := tp) hat_1
      have hat_2 : (tkT tp t (tkT tp t e)) ≤ t := htl.2
      have hb_2 : ∀ j, j < t → μ4.1 (x + 1) j = tp j := fun j hj => (hF_2.1 _ _ (by omega)).trans (hb_0 j hj)
      have ht_2 : μ4.1 x 1 = nI t := (hF_2.1 _ _ (by omega)).trans ht_0
      have hfl_2 : μ4.1 x 3 = -1 := (q3.1 _ _ (by omega)).trans hfl_1
      have hS_2 : SQ μ4 b ν.1 (nn ν) := SQ_F hS hF_2 (fun c j z => by omega)
      refine v_istore_n (pc := 17) (lo' := [some (.ref _), some (.ref _), some (.int _), some (.int _)]) F dX7_readLikes_17 rfl rfl (Nat.le_of_ble_eq_true rfl) rfl ?_
      refine v_aload_n (pc := 18) (i := 0) F dX7_readLikes_18 rfl rfl ?_
      refine v_getI (pc := 19) F fX7_15 dX7_readLikes_19 rfl hx ?_
      refine v_topE (y := (-1)) (hfl_2) ?_
      refine v_iconst (pc := 22) (v := (-1)) F dX7_readLikes_22 (by decide) ?_
      refine v_icmp_ne (pc := 23) (tgt := 37) F dX7_readLikes_23 (by decide) (fun h23_6 => ?_) (fun h23_6 => ?_)
      · skip
        exact absurd rfl h23_6
      · skip
        refine v_aload_n (pc := 26) (i := 1) F dX7_readLikes_26 rfl rfl ?_
        refine v_getR (pc := 27) (o := 3) F fX7_79 dX7_readLikes_27 rfl hb4 ?_
        refine v_topR (y := b + 3) rfl ?_
        refine v_iload_n (pc := 30) (i := 2) F dX7_readLikes_30 rfl rfl ?_
        refine v_aald14N (pc := 31) (k0 := p) (x := b + 5 + 2 * p) F dX7_readLikes_31 (lx4_2 hb4) (rfl) (by omega) (by decide) (by simp only [j_ro]; first | rfl | omega | (split <;> omega)) ?_
        have ho7 : j_ob ΛX (b + 5 + 2 * p) 3 := by
          have q := lxL (lx4_2 hb4) (j := p) (by omega)
          simp only [j_ro] at q
          exact (by first | exact q | (rw [show b + 5 + 2 * p = _ from (by first | rfl | omega)]; exact q))
        refine v_iload_n (pc := 32) (i := 3) F dX7_readLikes_32 rfl rfl ?_
        refine v_iconst (pc := 33) (v := nI 1) F dX7_readLikes_33 (by decide) ?_
        refine v_callVV (pc := 34) (As := [_, _]) (rest := []) (c := 3) F mX3_like kX7_83 im_X3_like se_X3_like dX7_readLikes_34 rfl rfl (by decide) (c_X3_like _ ho7 _ _ _ _ ((hS_2.1.lk p hp_lt).li)) (by decide) rfl rfl (Nat.le_of_ble_eq_true rfl) ho7 (fun μ8 hp8 => ?_)
        rw [hp8]
        rw [show likV (ν.1 5 p) (nI v) (nI 1) = ν.1 5 p ||| ((1 : Int32) <<< (nI v &&& 31)) from if_neg (by decide)]
        refine v_return (pc := 37) F dX7_readLikes_37 ?_
        rw [nb2_y hn_0]
        rw [nb1_y hn_1]
        refine ⟨(hF_2.mono (fun c j z => Or.inl z)).pI (by omega), ?_, ?_, ?_⟩
        · exact (j_pI_off (by omega)).trans hfl_2
        · exact (j_pI_off (by omega)).trans ha_2
        · have q := hS_2.1.pk (l := p) (j := 4) (v := (ν.1 5 p ||| ((1 : Int32) <<< (nI v &&& 31)))) hn8 hp_lt (by omega) (by omega) (by omega)
          rw [nn_pI (by decide)]
          exact ⟨q, hn8⟩

set_option maxRecDepth 100000 in
theorem c_X7_readComes (x : Nat) (hx : j_ob ΛX x 7) (b : Nat) (hb4 : j_ob ΛX b 4) (hxb : x + 2 ≤ b ∨ b + 21 ≤ x) (tp : Nat → Int32) (t e : Nat) (μ ν : j_M) (hb_0 : ∀ j, j < t → μ.1 (x + 1) j = tp j) (ht_0 : μ.1 x 1 = nI t) (ht2 : t ≤ 250) (ha_0 : μ.1 x 2 = nI e) (hat_0 : e ≤ t) (hfl_0 : μ.1 x 3 = -1) (hS : SQ μ b ν.1 (nn ν)) (hTH : ∀ p, p < 12 → TH (ν.1 1 p))  : Ct yX7_readComes cX7_readComes 4 none 4 ΛX [.ref x, .ref b] μ (pV fun μ2 => RD (nb2 tp t e (nn ν) 13 (fun p v => j_pI ν 6 p (nI v))) x b μ μ2) := by
  refine Ct.go (lo := [some (.ref x), some (.ref b), none, none]) (by decide) (Nat.le_of_ble_eq_true rfl) rfl rfl (fun X F => ?_)
  have F : Fx X cX7_readComes RX7 4 none ΛX := F
  have hn8 := hS.2
  have hF_0 : Fm (PTP x) μ μ := Fm.rf
  refine v_aload_n (pc := 0) (i := 0) F dX7_readComes_0 rfl rfl ?_
  refine v_aload_n (pc := 1) (i := 1) F dX7_readComes_1 rfl rfl ?_
  refine v_getI (pc := 2) F fX7_76 dX7_readComes_2 rfl hb4 ?_
  refine v_topE (y := nI ((nn ν))) (hS.1.cnt) ?_
  refine v_iconst (pc := 5) (v := nI 1) F dX7_readComes_5 (by decide) ?_
  refine v_isub (pc := 6) F dX7_readComes_6 ?_
  refine v_callVI (pc := 7) (As := [_]) (rest := []) (c := 7) F mX7_readNumber kX7_59 im_X7_readNumber se_X7_readNumber dX7_readComes_7 rfl rfl (by decide) (c_X7_readNumber x hx tp t e _ hb_0 ht_0 ht2 ha_0 hat_0 _ (nn ν) (j_wn hn8) (by omega) hfl_0) (by decide) rfl rfl (Nat.le_of_ble_eq_true rfl) hx (fun x1 μ1 hp1 => ?_)
  skip
  rcases hn_0 : nbr tp t e (nn ν) with _ | p
  · skip
    have hq := hp1
    unfold NBP at hq
    rw [hn_0] at hq
    obtain ⟨q1, hgb, q3⟩ := hq
    rw [q1]
    have hfb := (tkF_le (t := tp) hat_0).2
    have hFb : Fm (PTP x) μ μ1 := hF_0.tr q3
    refine v_istore_n (pc := 10) (lo' := [some (.ref _), some (.ref _), some (.int _), _]) F dX7_readComes_10 rfl rfl (Nat.le_of_ble_eq_true rfl) rfl ?_
    refine v_aload_n (pc := 11) (i := 0) F dX7_readComes_11 rfl rfl ?_
    refine v_bipush (pc := 12) (v := nI 12) F dX7_readComes_12 (by decide) ?_
    refine v_callVI (pc := 14) (As := [_]) (rest := []) (c := 7) F mX7_readNumber kX7_59 im_X7_readNumber se_X7_readNumber dX7_readComes_14 rfl rfl (by decide) (c_X7_readNumberF x hx _ (tkF tp t e) _ (by have := tkF_le (t := tp) hat_0; omega) hgb) (by decide) rfl rfl (Nat.le_of_ble_eq_true rfl) hx (fun x2 μ2 hp2 => ?_)
    rw [hp2.1, hp2.2]
    refine v_istore_n (pc := 17) (lo' := [some (.ref _), some (.ref _), some (.int _), some (.int _)]) F dX7_readComes_17 rfl rfl (Nat.le_of_ble_eq_true rfl) rfl ?_
    refine v_aload_n (pc := 18) (i := 0) F dX7_readComes_18 rfl rfl ?_
    refine v_getI (pc := 19) F fX7_15 dX7_readComes_19 rfl hx ?_
    refine v_topE (y := nI (tkF tp t e)) (hgb) ?_
    refine v_iconst (pc := 22) (v := (-1)) F dX7_readComes_22 (by decide) ?_
    refine v_icmp_ne (pc := 23) (tgt := 36) F dX7_readComes_23 (by decide) (fun h23_3 => ?_) (fun h23_3 => ?_)
    · rw [j_nm1 (by omega)] at h23_3
      refine v_return (pc := 36) F dX7_readComes_36 ?_
      rw [nb2_n hn_0]
      exact RD.no hgb hFb
    · rw [j_nm1 (by omega)] at h23_3
      exact h23_3.elim
  · skip
    have hq := hp1
    unfold NBP at hq
    rw [hn_0] at hq
    obtain ⟨q1, hp_lt, ha_1, q3⟩ := hq
    rw [q1]
    have hF_1 : Fm (PTP x) μ μ1 := hF_0.tr (q3.mono (fun c j z => by omega))
    have htl := tkT_le (t := tp) hat_0
    have hat_1 : (tkT tp t e) ≤ t := htl.2
    have hb_1 : ∀ j, j < t → μ1.1 (x + 1) j = tp j := fun j hj => (hF_1.1 _ _ (by omega)).trans (hb_0 j hj)
    have ht_1 : μ1.1 x 1 = nI t := (hF_1.1 _ _ (by omega)).trans ht_0
    have hfl_1 : μ1.1 x 3 = -1 := (q3.1 _ _ (by omega)).trans hfl_0
    have hS_1 : SQ μ1 b ν.1 (nn ν) := SQ_F hS hF_1 (fun c j z => by omega)
    refine v_istore_n (pc := 10) (lo' := [some (.ref _), some (.ref _), some (.int _), _]) F dX7_readComes_10 rfl rfl (Nat.le_of_ble_eq_true rfl) rfl ?_
    refine v_aload_n (pc := 11) (i := 0) F dX7_readComes_11 rfl rfl ?_
    refine v_bipush (pc := 12) (v := nI 12) F dX7_readComes_12 (by decide) ?_
    refine v_callVI (pc := 14) (As := [_]) (rest := []) (c := 7) F mX7_readNumber kX7_59 im_X7_readNumber se_X7_readNumber dX7_readComes_14 rfl rfl (by decide) (c_X7_readNumber x hx tp t (tkT tp t e) _ hb_1 ht_1 ht2 ha_1 hat_1 _ 13 (fun v => j_wi rfl (by decide)) (by omega) hfl_1) (by decide) rfl rfl (Nat.le_of_ble_eq_true rfl) hx (fun x4 μ4 hp4 => ?_)
    skip
    rcases hn_1 : nbr tp t (tkT tp t e) 13 with _ | v
    · skip
      have hq := hp4
      unfold NBP at hq
      rw [hn_1] at hq
      obtain ⟨q1, hgb, q3⟩ := hq
      rw [q1]
      have hfb := (tkF_le (t := tp) hat_1).2
      have hFb : Fm (PTP x) μ μ4 := hF_1.tr q3
      refine v_istore_n (pc := 17) (lo' := [some (.ref _), some (.ref _), some (.int _), some (.int _)]) F dX7_readComes_17 rfl rfl (Nat.le_of_ble_eq_true rfl) rfl ?_
      refine v_aload_n (pc := 18) (i := 0) F dX7_readComes_18 rfl rfl ?_
      refine v_getI (pc := 19) F fX7_15 dX7_readComes_19 rfl hx ?_
      refine v_topE (y := nI (tkF tp t (tkT tp t e))) (hgb) ?_
      refine v_iconst (pc := 22) (v := (-1)) F dX7_readComes_22 (by decide) ?_
      refine v_icmp_ne (pc := 23) (tgt := 36) F dX7_readComes_23 (by decide) (fun h23_5 => ?_) (fun h23_5 => ?_)
      · rw [j_nm1 (by omega)] at h23_5
        refine v_return (pc := 36) F dX7_readComes_36 ?_
        rw [nb2_y hn_0]
        rw [nb1_n hn_1]
        exact RD.no hgb hFb
      · rw [j_nm1 (by omega)] at h23_5
        exact h23_5.elim
    · skip
      have hq := hp4
      unfold NBP at hq
      rw [hn_1] at hq
      obtain ⟨q1, hv_lt, ha_2, q3⟩ := hq
      rw [q1]
      have hF_2 : Fm (PTP x) μ μ4 := hF_1.tr (q3.mono (fun c j z => by omega))
      have htl := tkT_le (t := tp) hat_1
      have hat_2 : (tkT tp t (tkT tp t e)) ≤ t := htl.2
      have hb_2 : ∀ j, j < t → μ4.1 (x + 1) j = tp j := fun j hj => (hF_2.1 _ _ (by omega)).trans (hb_0 j hj)
      have ht_2 : μ4.1 x 1 = nI t := (hF_2.1 _ _ (by omega)).trans ht_0
      have hfl_2 : μ4.1 x 3 = -1 := (q3.1 _ _ (by omega)).trans hfl_1
      have hS_2 : SQ μ4 b ν.1 (nn ν) := SQ_F hS hF_2 (fun c j z => by omega)
      refine v_istore_n (pc := 17) (lo' := [some (.ref _), some (.ref _), some (.int _), some (.int _)]) F dX7_readComes_17 rfl rfl (Nat.le_of_ble_eq_true rfl) rfl ?_
      refine v_aload_n (pc := 18) (i := 0) F dX7_readComes_18 rfl rfl ?_
      refine v_getI (pc := 19) F fX7_15 dX7_readComes_19 rfl hx ?_
      refine v_topE (y := (-1)) (hfl_2) ?_
      refine v_iconst (pc := 22) (v := (-1)) F dX7_readComes_22 (by decide) ?_
      refine v_icmp_ne (pc := 23) (tgt := 36) F dX7_readComes_23 (by decide) (fun h23_6 => ?_) (fun h23_6 => ?_)
      · skip
        exact absurd rfl h23_6
      · skip
        refine v_aload_n (pc := 26) (i := 1) F dX7_readComes_26 rfl rfl ?_
        refine v_getR (pc := 27) (o := 3) F fX7_79 dX7_readComes_27 rfl hb4 ?_
        refine v_topR (y := b + 3) rfl ?_
        refine v_iload_n (pc := 30) (i := 2) F dX7_readComes_30 rfl rfl ?_
        refine v_aald14N (pc := 31) (k0 := p) (x := b + 5 + 2 * p) F dX7_readComes_31 (lx4_2 hb4) (rfl) (by omega) (by decide) (by simp only [j_ro]; first | rfl | omega | (split <;> omega)) ?_
        have ho7 : j_ob ΛX (b + 5 + 2 * p) 3 := by
          have q := lxL (lx4_2 hb4) (j := p) (by omega)
          simp only [j_ro] at q
          exact (by first | exact q | (rw [show b + 5 + 2 * p = _ from (by first | rfl | omega)]; exact q))
        refine v_iload_n (pc := 32) (i := 3) F dX7_readComes_32 rfl rfl ?_
        refine v_put (pc := 33) F fX7_89 dX7_readComes_33 rfl rfl rfl ho7 ?_
        refine v_return (pc := 36) F dX7_readComes_36 ?_
        rw [nb2_y hn_0]
        rw [nb1_y hn_1]
        refine ⟨(hF_2.mono (fun c j z => Or.inl z)).pI (by omega), ?_, ?_, ?_⟩
        · exact (j_pI_off (by omega)).trans hfl_2
        · exact (j_pI_off (by omega)).trans ha_2
        · have q := hS_2.1.pk (l := p) (j := 5) (v := (nI v)) hn8 hp_lt (by omega) (by omega) (by omega)
          rw [nn_pI (by decide)]
          exact ⟨q, hn8⟩

set_option maxRecDepth 100000 in
theorem c_X7_readShine (x : Nat) (hx : j_ob ΛX x 7) (b : Nat) (hb4 : j_ob ΛX b 4) (hxb : x + 2 ≤ b ∨ b + 21 ≤ x) (tp : Nat → Int32) (t e : Nat) (μ ν : j_M) (hb_0 : ∀ j, j < t → μ.1 (x + 1) j = tp j) (ht_0 : μ.1 x 1 = nI t) (ht2 : t ≤ 250) (ha_0 : μ.1 x 2 = nI e) (hat_0 : e ≤ t) (hfl_0 : μ.1 x 3 = -1) (hS : SQ μ b ν.1 (nn ν)) (hTH : ∀ p, p < 12 → TH (ν.1 1 p))  : Ct yX7_readShine cX7_readShine 4 none 4 ΛX [.ref x, .ref b] μ (pV fun μ2 => RD (nb2 tp t e (nn ν) 8 (fun p v => j_pI ν 7 p (nI v))) x b μ μ2) := by
  refine Ct.go (lo := [some (.ref x), some (.ref b), none, none]) (by decide) (Nat.le_of_ble_eq_true rfl) rfl rfl (fun X F => ?_)
  have F : Fx X cX7_readShine RX7 4 none ΛX := F
  have hn8 := hS.2
  have hF_0 : Fm (PTP x) μ μ := Fm.rf
  refine v_aload_n (pc := 0) (i := 0) F dX7_readShine_0 rfl rfl ?_
  refine v_aload_n (pc := 1) (i := 1) F dX7_readShine_1 rfl rfl ?_
  refine v_getI (pc := 2) F fX7_76 dX7_readShine_2 rfl hb4 ?_
  refine v_topE (y := nI ((nn ν))) (hS.1.cnt) ?_
  refine v_iconst (pc := 5) (v := nI 1) F dX7_readShine_5 (by decide) ?_
  refine v_isub (pc := 6) F dX7_readShine_6 ?_
  refine v_callVI (pc := 7) (As := [_]) (rest := []) (c := 7) F mX7_readNumber kX7_59 im_X7_readNumber se_X7_readNumber dX7_readShine_7 rfl rfl (by decide) (c_X7_readNumber x hx tp t e _ hb_0 ht_0 ht2 ha_0 hat_0 _ (nn ν) (j_wn hn8) (by omega) hfl_0) (by decide) rfl rfl (Nat.le_of_ble_eq_true rfl) hx (fun x1 μ1 hp1 => ?_)
  skip
  rcases hn_0 : nbr tp t e (nn ν) with _ | p
  · skip
    have hq := hp1
    unfold NBP at hq
    rw [hn_0] at hq
    obtain ⟨q1, hgb, q3⟩ := hq
    rw [q1]
    have hfb := (tkF_le (t := tp) hat_0).2
    have hFb : Fm (PTP x) μ μ1 := hF_0.tr q3
    refine v_istore_n (pc := 10) (lo' := [some (.ref _), some (.ref _), some (.int _), _]) F dX7_readShine_10 rfl rfl (Nat.le_of_ble_eq_true rfl) rfl ?_
    refine v_aload_n (pc := 11) (i := 0) F dX7_readShine_11 rfl rfl ?_
    refine v_bipush (pc := 12) (v := nI 7) F dX7_readShine_12 (by decide) ?_
    refine v_callVI (pc := 14) (As := [_]) (rest := []) (c := 7) F mX7_readNumber kX7_59 im_X7_readNumber se_X7_readNumber dX7_readShine_14 rfl rfl (by decide) (c_X7_readNumberF x hx _ (tkF tp t e) _ (by have := tkF_le (t := tp) hat_0; omega) hgb) (by decide) rfl rfl (Nat.le_of_ble_eq_true rfl) hx (fun x2 μ2 hp2 => ?_)
    rw [hp2.1, hp2.2]
    refine v_istore_n (pc := 17) (lo' := [some (.ref _), some (.ref _), some (.int _), some (.int _)]) F dX7_readShine_17 rfl rfl (Nat.le_of_ble_eq_true rfl) rfl ?_
    refine v_aload_n (pc := 18) (i := 0) F dX7_readShine_18 rfl rfl ?_
    refine v_getI (pc := 19) F fX7_15 dX7_readShine_19 rfl hx ?_
    refine v_topE (y := nI (tkF tp t e)) (hgb) ?_
    refine v_iconst (pc := 22) (v := (-1)) F dX7_readShine_22 (by decide) ?_
    refine v_icmp_ne (pc := 23) (tgt := 36) F dX7_readShine_23 (by decide) (fun h23_3 => ?_) (fun h23_3 => ?_)
    · rw [j_nm1 (by omega)] at h23_3
      refine v_return (pc := 36) F dX7_readShine_36 ?_
      rw [nb2_n hn_0]
      exact RD.no hgb hFb
    · rw [j_nm1 (by omega)] at h23_3
      exact h23_3.elim
  · skip
    have hq := hp1
    unfold NBP at hq
    rw [hn_0] at hq
    obtain ⟨q1, hp_lt, ha_1, q3⟩ := hq
    rw [q1]
    have hF_1 : Fm (PTP x) μ μ1 := hF_0.tr (q3.mono (fun c j z => by omega))
    have htl := tkT_le (t := tp) hat_0
    have hat_1 : (tkT tp t e) ≤ t := htl.2
    have hb_1 : ∀ j, j < t → μ1.1 (x + 1) j = tp j := fun j hj => (hF_1.1 _ _ (by omega)).trans (hb_0 j hj)
    have ht_1 : μ1.1 x 1 = nI t := (hF_1.1 _ _ (by omega)).trans ht_0
    have hfl_1 : μ1.1 x 3 = -1 := (q3.1 _ _ (by omega)).trans hfl_0
    have hS_1 : SQ μ1 b ν.1 (nn ν) := SQ_F hS hF_1 (fun c j z => by omega)
    refine v_istore_n (pc := 10) (lo' := [some (.ref _), some (.ref _), some (.int _), _]) F dX7_readShine_10 rfl rfl (Nat.le_of_ble_eq_true rfl) rfl ?_
    refine v_aload_n (pc := 11) (i := 0) F dX7_readShine_11 rfl rfl ?_
    refine v_bipush (pc := 12) (v := nI 7) F dX7_readShine_12 (by decide) ?_
    refine v_callVI (pc := 14) (As := [_]) (rest := []) (c := 7) F mX7_readNumber kX7_59 im_X7_readNumber se_X7_readNumber dX7_readShine_14 rfl rfl (by decide) (c_X7_readNumber x hx tp t (tkT tp t e) _ hb_1 ht_1 ht2 ha_1 hat_1 _ 8 (fun v => j_wi rfl (by decide)) (by omega) hfl_1) (by decide) rfl rfl (Nat.le_of_ble_eq_true rfl) hx (fun x4 μ4 hp4 => ?_)
    skip
    rcases hn_1 : nbr tp t (tkT tp t e) 8 with _ | v
    · skip
      have hq := hp4
      unfold NBP at hq
      rw [hn_1] at hq
      obtain ⟨q1, hgb, q3⟩ := hq
      rw [q1]
      have hfb := (tkF_le (t := tp) hat_1).2
      have hFb : Fm (PTP x) μ μ4 := hF_1.tr q3
      refine v_istore_n (pc := 17) (lo' := [some (.ref _), some (.ref _), some (.int _), some (.int _)]) F dX7_readShine_17 rfl rfl (Nat.le_of_ble_eq_true rfl) rfl ?_
      refine v_aload_n (pc := 18) (i := 0) F dX7_readShine_18 rfl rfl ?_
      refine v_getI (pc := 19) F fX7_15 dX7_readShine_19 rfl hx ?_
      refine v_topE (y := nI (tkF tp t (tkT tp t e))) (hgb) ?_
      refine v_iconst (pc := 22) (v := (-1)) F dX7_readShine_22 (by decide) ?_
      refine v_icmp_ne (pc := 23) (tgt := 36) F dX7_readShine_23 (by decide) (fun h23_5 => ?_) (fun h23_5 => ?_)
      · rw [j_nm1 (by omega)] at h23_5
        refine v_return (pc := 36) F dX7_readShine_36 ?_
        rw [nb2_y hn_0]
        rw [nb1_n hn_1]
        exact RD.no hgb hFb
      · rw [j_nm1 (by omega)] at h23_5
        exact h23_5.elim
    · skip
      have hq := hp4
      unfold NBP at hq
      rw [hn_1] at hq
      obtain ⟨q1, hv_lt, ha_2, q3⟩ := hq
      rw [q1]
      have hF_2 : Fm (PTP x) μ μ4 := hF_1.tr (q3.mono (fun c j z => by omega))
      have htl := tkT_le (t := tp) hat_1
      have hat_2 : (tkT tp t (tkT tp t e)) ≤ t := htl.2
      have hb_2 : ∀ j, j < t → μ4.1 (x + 1) j = tp j := fun j hj => (hF_2.1 _ _ (by omega)).trans (hb_0 j hj)
      have ht_2 : μ4.1 x 1 = nI t := (hF_2.1 _ _ (by omega)).trans ht_0
      have hfl_2 : μ4.1 x 3 = -1 := (q3.1 _ _ (by omega)).trans hfl_1
      have hS_2 : SQ μ4 b ν.1 (nn ν) := SQ_F hS hF_2 (fun c j z => by omega)
      refine v_istore_n (pc := 17) (lo' := [some (.ref _), some (.ref _), some (.int _), some (.int _)]) F dX7_readShine_17 rfl rfl (Nat.le_of_ble_eq_true rfl) rfl ?_
      refine v_aload_n (pc := 18) (i := 0) F dX7_readShine_18 rfl rfl ?_
      refine v_getI (pc := 19) F fX7_15 dX7_readShine_19 rfl hx ?_
      refine v_topE (y := (-1)) (hfl_2) ?_
      refine v_iconst (pc := 22) (v := (-1)) F dX7_readShine_22 (by decide) ?_
      refine v_icmp_ne (pc := 23) (tgt := 36) F dX7_readShine_23 (by decide) (fun h23_6 => ?_) (fun h23_6 => ?_)
      · skip
        exact absurd rfl h23_6
      · skip
        refine v_aload_n (pc := 26) (i := 1) F dX7_readShine_26 rfl rfl ?_
        refine v_getR (pc := 27) (o := 3) F fX7_79 dX7_readShine_27 rfl hb4 ?_
        refine v_topR (y := b + 3) rfl ?_
        refine v_iload_n (pc := 30) (i := 2) F dX7_readShine_30 rfl rfl ?_
        refine v_aald14N (pc := 31) (k0 := p) (x := b + 5 + 2 * p) F dX7_readShine_31 (lx4_2 hb4) (rfl) (by omega) (by decide) (by simp only [j_ro]; first | rfl | omega | (split <;> omega)) ?_
        have ho7 : j_ob ΛX (b + 5 + 2 * p) 3 := by
          have q := lxL (lx4_2 hb4) (j := p) (by omega)
          simp only [j_ro] at q
          exact (by first | exact q | (rw [show b + 5 + 2 * p = _ from (by first | rfl | omega)]; exact q))
        refine v_iload_n (pc := 32) (i := 3) F dX7_readShine_32 rfl rfl ?_
        refine v_put (pc := 33) F fX7_92 dX7_readShine_33 rfl rfl rfl ho7 ?_
        refine v_return (pc := 36) F dX7_readShine_36 ?_
        rw [nb2_y hn_0]
        rw [nb1_y hn_1]
        refine ⟨(hF_2.mono (fun c j z => Or.inl z)).pI (by omega), ?_, ?_, ?_⟩
        · exact (j_pI_off (by omega)).trans hfl_2
        · exact (j_pI_off (by omega)).trans ha_2
        · have q := hS_2.1.pk (l := p) (j := 6) (v := (nI v)) hn8 hp_lt (by omega) (by omega) (by omega)
          rw [nn_pI (by decide)]
          exact ⟨q, hn8⟩

set_option maxRecDepth 100000 in
theorem c_X7_readLooker (x : Nat) (hx : j_ob ΛX x 7) (b : Nat) (hb4 : j_ob ΛX b 4) (hxb : x + 2 ≤ b ∨ b + 21 ≤ x) (tp : Nat → Int32) (t e : Nat) (μ ν : j_M) (hb_0 : ∀ j, j < t → μ.1 (x + 1) j = tp j) (ht_0 : μ.1 x 1 = nI t) (ht2 : t ≤ 250) (ha_0 : μ.1 x 2 = nI e) (hat_0 : e ≤ t) (hfl_0 : μ.1 x 3 = -1) (hS : SQ μ b ν.1 (nn ν)) (hTH : ∀ p, p < 12 → TH (ν.1 1 p)) (f : Nat) : Ct yX7_readLooker cX7_readLooker 6 none 4 ΛX [.ref x, .ref b, .int (nI f)] μ (pV fun μ2 => RD (if nn ν = 8 then .inl f else nb3 tp t e 6 8 100 (fun p v y => m_nl ν (nn ν) (nI p) (nI v) (nI y))) x b μ μ2) := by
  refine Ct.go (lo := [some (.ref x), some (.ref b), some (.int (nI f)), none, none, none]) (by decide) (Nat.le_of_ble_eq_true rfl) rfl rfl (fun X F => ?_)
  have F : Fx X cX7_readLooker RX7 4 none ΛX := F
  have hn8 := hS.2
  have hF_0 : Fm (PTP x) μ μ := Fm.rf
  refine v_aload_n (pc := 0) (i := 1) F dX7_readLooker_0 rfl rfl ?_
  refine v_callVI (pc := 1) (As := []) (rest := []) (c := 4) F mX4_isFull kX7_69 im_X4_isFull se_X4_isFull dX7_readLooker_1 rfl rfl (by decide) (c_X4_isFull b hb4 (nn ν) ν.1 _ hS) (by decide) rfl rfl (Nat.le_of_ble_eq_true rfl) hb4 (fun x1 μ1 hp1 => ?_)
  rw [hp1.1, hp1.2]
  refine v_if_eq (pc := 4) (tgt := 13) F dX7_readLooker_4 (by decide) (fun h8 => ?_) (fun h8 => ?_)
  · rw [b2i_0] at h8
    refine v_aload_n (pc := 13) (i := 0) F dX7_readLooker_13 rfl rfl ?_
    refine v_iconst (pc := 14) (v := nI 5) F dX7_readLooker_14 (by decide) ?_
    refine v_callVI (pc := 15) (As := [_]) (rest := []) (c := 7) F mX7_readNumber kX7_59 im_X7_readNumber se_X7_readNumber dX7_readLooker_15 rfl rfl (by decide) (c_X7_readNumber x hx tp t e _ hb_0 ht_0 ht2 ha_0 hat_0 _ 6 (fun v => j_wi rfl (by decide)) (by omega) hfl_0) (by decide) rfl rfl (Nat.le_of_ble_eq_true rfl) hx (fun x3 μ3 hp3 => ?_)
    skip
    rcases hn_0 : nbr tp t e 6 with _ | p
    · skip
      have hq := hp3
      unfold NBP at hq
      rw [hn_0] at hq
      obtain ⟨q1, hgb, q3⟩ := hq
      rw [q1]
      have hfb := (tkF_le (t := tp) hat_0).2
      have hFb : Fm (PTP x) μ μ3 := hF_0.tr q3
      refine v_istore_n (pc := 18) (lo' := [some (.ref _), some (.ref _), some (.int _), some (.int _), _, _]) F dX7_readLooker_18 rfl rfl (Nat.le_of_ble_eq_true rfl) rfl ?_
      refine v_aload_n (pc := 19) (i := 0) F dX7_readLooker_19 rfl rfl ?_
      refine v_bipush (pc := 20) (v := nI 7) F dX7_readLooker_20 (by decide) ?_
      refine v_callVI (pc := 22) (As := [_]) (rest := []) (c := 7) F mX7_readNumber kX7_59 im_X7_readNumber se_X7_readNumber dX7_readLooker_22 rfl rfl (by decide) (c_X7_readNumberF x hx _ (tkF tp t e) _ (by have := tkF_le (t := tp) hat_0; omega) hgb) (by decide) rfl rfl (Nat.le_of_ble_eq_true rfl) hx (fun x4 μ4 hp4 => ?_)
      rw [hp4.1, hp4.2]
      refine v_istore (pc := 25) (lo' := [some (.ref _), some (.ref _), some (.int _), some (.int _), some (.int _), _]) F dX7_readLooker_25 rfl (Nat.le_of_ble_eq_true rfl) rfl ?_
      refine v_aload_n (pc := 27) (i := 0) F dX7_readLooker_27 rfl rfl ?_
      refine v_bipush (pc := 28) (v := nI 99) F dX7_readLooker_28 (by decide) ?_
      refine v_callVI (pc := 30) (As := [_]) (rest := []) (c := 7) F mX7_readNumber kX7_59 im_X7_readNumber se_X7_readNumber dX7_readLooker_30 rfl rfl (by decide) (c_X7_readNumberF x hx _ (tkF tp t e) _ (by have := tkF_le (t := tp) hat_0; omega) hgb) (by decide) rfl rfl (Nat.le_of_ble_eq_true rfl) hx (fun x5 μ5 hp5 => ?_)
      rw [hp5.1, hp5.2]
      refine v_istore (pc := 33) (lo' := [some (.ref _), some (.ref _), some (.int _), some (.int _), some (.int _), some (.int _)]) F dX7_readLooker_33 rfl (Nat.le_of_ble_eq_true rfl) rfl ?_
      refine v_aload_n (pc := 35) (i := 0) F dX7_readLooker_35 rfl rfl ?_
      refine v_getI (pc := 36) F fX7_15 dX7_readLooker_36 rfl hx ?_
      refine v_topE (y := nI (tkF tp t e)) (hgb) ?_
      refine v_iconst (pc := 39) (v := (-1)) F dX7_readLooker_39 (by decide) ?_
      refine v_icmp_ne (pc := 40) (tgt := 53) F dX7_readLooker_40 (by decide) (fun h40_6 => ?_) (fun h40_6 => ?_)
      · rw [j_nm1 (by omega)] at h40_6
        refine v_return (pc := 53) F dX7_readLooker_53 ?_
        rw [if_neg h8]
        rw [nb3_n hn_0]
        exact RD.no hgb hFb
      · rw [j_nm1 (by omega)] at h40_6
        exact h40_6.elim
    · skip
      have hq := hp3
      unfold NBP at hq
      rw [hn_0] at hq
      obtain ⟨q1, hp_lt, ha_1, q3⟩ := hq
      rw [q1]
      have hF_1 : Fm (PTP x) μ μ3 := hF_0.tr (q3.mono (fun c j z => by omega))
      have htl := tkT_le (t := tp) hat_0
      have hat_1 : (tkT tp t e) ≤ t := htl.2
      have hb_1 : ∀ j, j < t → μ3.1 (x + 1) j = tp j := fun j hj => (hF_1.1 _ _ (by omega)).trans (hb_0 j hj)
      have ht_1 : μ3.1 x 1 = nI t := (hF_1.1 _ _ (by omega)).trans ht_0
      have hfl_1 : μ3.1 x 3 = -1 := (q3.1 _ _ (by omega)).trans hfl_0
      have hS_1 : SQ μ3 b ν.1 (nn ν) := SQ_F hS hF_1 (fun c j z => by omega)
      refine v_istore_n (pc := 18) (lo' := [some (.ref _), some (.ref _), some (.int _), some (.int _), _, _]) F dX7_readLooker_18 rfl rfl (Nat.le_of_ble_eq_true rfl) rfl ?_
      refine v_aload_n (pc := 19) (i := 0) F dX7_readLooker_19 rfl rfl ?_
      refine v_bipush (pc := 20) (v := nI 7) F dX7_readLooker_20 (by decide) ?_
      refine v_callVI (pc := 22) (As := [_]) (rest := []) (c := 7) F mX7_readNumber kX7_59 im_X7_readNumber se_X7_readNumber dX7_readLooker_22 rfl rfl (by decide) (c_X7_readNumber x hx tp t (tkT tp t e) _ hb_1 ht_1 ht2 ha_1 hat_1 _ 8 (fun v => j_wi rfl (by decide)) (by omega) hfl_1) (by decide) rfl rfl (Nat.le_of_ble_eq_true rfl) hx (fun x7 μ7 hp7 => ?_)
      skip
      rcases hn_1 : nbr tp t (tkT tp t e) 8 with _ | v
      · skip
        have hq := hp7
        unfold NBP at hq
        rw [hn_1] at hq
        obtain ⟨q1, hgb, q3⟩ := hq
        rw [q1]
        have hfb := (tkF_le (t := tp) hat_1).2
        have hFb : Fm (PTP x) μ μ7 := hF_1.tr q3
        refine v_istore (pc := 25) (lo' := [some (.ref _), some (.ref _), some (.int _), some (.int _), some (.int _), _]) F dX7_readLooker_25 rfl (Nat.le_of_ble_eq_true rfl) rfl ?_
        refine v_aload_n (pc := 27) (i := 0) F dX7_readLooker_27 rfl rfl ?_
        refine v_bipush (pc := 28) (v := nI 99) F dX7_readLooker_28 (by decide) ?_
        refine v_callVI (pc := 30) (As := [_]) (rest := []) (c := 7) F mX7_readNumber kX7_59 im_X7_readNumber se_X7_readNumber dX7_readLooker_30 rfl rfl (by decide) (c_X7_readNumberF x hx _ (tkF tp t (tkT tp t e)) _ (by have := tkF_le (t := tp) hat_1; omega) hgb) (by decide) rfl rfl (Nat.le_of_ble_eq_true rfl) hx (fun x8 μ8 hp8 => ?_)
        rw [hp8.1, hp8.2]
        refine v_istore (pc := 33) (lo' := [some (.ref _), some (.ref _), some (.int _), some (.int _), some (.int _), some (.int _)]) F dX7_readLooker_33 rfl (Nat.le_of_ble_eq_true rfl) rfl ?_
        refine v_aload_n (pc := 35) (i := 0) F dX7_readLooker_35 rfl rfl ?_
        refine v_getI (pc := 36) F fX7_15 dX7_readLooker_36 rfl hx ?_
        refine v_topE (y := nI (tkF tp t (tkT tp t e))) (hgb) ?_
        refine v_iconst (pc := 39) (v := (-1)) F dX7_readLooker_39 (by decide) ?_
        refine v_icmp_ne (pc := 40) (tgt := 53) F dX7_readLooker_40 (by decide) (fun h40_9 => ?_) (fun h40_9 => ?_)
        · rw [j_nm1 (by omega)] at h40_9
          refine v_return (pc := 53) F dX7_readLooker_53 ?_
          rw [if_neg h8]
          rw [nb3_y hn_0]
          rw [nb2_n hn_1]
          exact RD.no hgb hFb
        · rw [j_nm1 (by omega)] at h40_9
          exact h40_9.elim
      · skip
        have hq := hp7
        unfold NBP at hq
        rw [hn_1] at hq
        obtain ⟨q1, hv_lt, ha_2, q3⟩ := hq
        rw [q1]
        have hF_2 : Fm (PTP x) μ μ7 := hF_1.tr (q3.mono (fun c j z => by omega))
        have htl := tkT_le (t := tp) hat_1
        have hat_2 : (tkT tp t (tkT tp t e)) ≤ t := htl.2
        have hb_2 : ∀ j, j < t → μ7.1 (x + 1) j = tp j := fun j hj => (hF_2.1 _ _ (by omega)).trans (hb_0 j hj)
        have ht_2 : μ7.1 x 1 = nI t := (hF_2.1 _ _ (by omega)).trans ht_0
        have hfl_2 : μ7.1 x 3 = -1 := (q3.1 _ _ (by omega)).trans hfl_1
        have hS_2 : SQ μ7 b ν.1 (nn ν) := SQ_F hS hF_2 (fun c j z => by omega)
        refine v_istore (pc := 25) (lo' := [some (.ref _), some (.ref _), some (.int _), some (.int _), some (.int _), _]) F dX7_readLooker_25 rfl (Nat.le_of_ble_eq_true rfl) rfl ?_
        refine v_aload_n (pc := 27) (i := 0) F dX7_readLooker_27 rfl rfl ?_
        refine v_bipush (pc := 28) (v := nI 99) F dX7_readLooker_28 (by decide) ?_
        refine v_callVI (pc := 30) (As := [_]) (rest := []) (c := 7) F mX7_readNumber kX7_59 im_X7_readNumber se_X7_readNumber dX7_readLooker_30 rfl rfl (by decide) (c_X7_readNumber x hx tp t (tkT tp t (tkT tp t e)) _ hb_2 ht_2 ht2 ha_2 hat_2 _ 100 (fun v => j_wi rfl (by decide)) (by omega) hfl_2) (by decide) rfl rfl (Nat.le_of_ble_eq_true rfl) hx (fun x10 μ10 hp10 => ?_)
        skip
        rcases hn_2 : nbr tp t (tkT tp t (tkT tp t e)) 100 with _ | y
        · skip
          have hq := hp10
          unfold NBP at hq
          rw [hn_2] at hq
          obtain ⟨q1, hgb, q3⟩ := hq
          rw [q1]
          have hfb := (tkF_le (t := tp) hat_2).2
          have hFb : Fm (PTP x) μ μ10 := hF_2.tr q3
          refine v_istore (pc := 33) (lo' := [some (.ref _), some (.ref _), some (.int _), some (.int _), some (.int _), some (.int _)]) F dX7_readLooker_33 rfl (Nat.le_of_ble_eq_true rfl) rfl ?_
          refine v_aload_n (pc := 35) (i := 0) F dX7_readLooker_35 rfl rfl ?_
          refine v_getI (pc := 36) F fX7_15 dX7_readLooker_36 rfl hx ?_
          refine v_topE (y := nI (tkF tp t (tkT tp t (tkT tp t e)))) (hgb) ?_
          refine v_iconst (pc := 39) (v := (-1)) F dX7_readLooker_39 (by decide) ?_
          refine v_icmp_ne (pc := 40) (tgt := 53) F dX7_readLooker_40 (by decide) (fun h40_11 => ?_) (fun h40_11 => ?_)
          · rw [j_nm1 (by omega)] at h40_11
            refine v_return (pc := 53) F dX7_readLooker_53 ?_
            rw [if_neg h8]
            rw [nb3_y hn_0]
            rw [nb2_y hn_1]
            rw [nb1_n hn_2]
            exact RD.no hgb hFb
          · rw [j_nm1 (by omega)] at h40_11
            exact h40_11.elim
        · skip
          have hq := hp10
          unfold NBP at hq
          rw [hn_2] at hq
          obtain ⟨q1, hy_lt, ha_3, q3⟩ := hq
          rw [q1]
          have hF_3 : Fm (PTP x) μ μ10 := hF_2.tr (q3.mono (fun c j z => by omega))
          have htl := tkT_le (t := tp) hat_2
          have hat_3 : (tkT tp t (tkT tp t (tkT tp t e))) ≤ t := htl.2
          have hb_3 : ∀ j, j < t → μ10.1 (x + 1) j = tp j := fun j hj => (hF_3.1 _ _ (by omega)).trans (hb_0 j hj)
          have ht_3 : μ10.1 x 1 = nI t := (hF_3.1 _ _ (by omega)).trans ht_0
          have hfl_3 : μ10.1 x 3 = -1 := (q3.1 _ _ (by omega)).trans hfl_2
          have hS_3 : SQ μ10 b ν.1 (nn ν) := SQ_F hS hF_3 (fun c j z => by omega)
          refine v_istore (pc := 33) (lo' := [some (.ref _), some (.ref _), some (.int _), some (.int _), some (.int _), some (.int _)]) F dX7_readLooker_33 rfl (Nat.le_of_ble_eq_true rfl) rfl ?_
          refine v_aload_n (pc := 35) (i := 0) F dX7_readLooker_35 rfl rfl ?_
          refine v_getI (pc := 36) F fX7_15 dX7_readLooker_36 rfl hx ?_
          refine v_topE (y := (-1)) (hfl_3) ?_
          refine v_iconst (pc := 39) (v := (-1)) F dX7_readLooker_39 (by decide) ?_
          refine v_icmp_ne (pc := 40) (tgt := 53) F dX7_readLooker_40 (by decide) (fun h40_12 => ?_) (fun h40_12 => ?_)
          · skip
            exact absurd rfl h40_12
          · skip
            refine v_aload_n (pc := 43) (i := 1) F dX7_readLooker_43 rfl rfl ?_
            refine v_iload_n (pc := 44) (i := 3) F dX7_readLooker_44 rfl rfl ?_
            refine v_iload (pc := 45) (i := 4) F dX7_readLooker_45 rfl ?_
            refine v_iload (pc := 47) (i := 5) F dX7_readLooker_47 rfl ?_
            refine v_callVI (pc := 49) (As := [_, _, _]) (rest := []) (c := 4) F mX4_add kX7_72 im_X4_add se_X4_add dX7_readLooker_49 rfl rfl (by decide) (c_X4_add b hb4 (nn ν) ν.1 _ hS_3 (by omega) _ _ _) (by decide) rfl rfl (Nat.le_of_ble_eq_true rfl) hb4 (fun x13 μ13 hp13 => ?_)
            have hadd := hp13
            rw [hp13.1]
            refine v_pop (pc := 52) F dX7_readLooker_52 rfl ?_
            refine v_return (pc := 53) F dX7_readLooker_53 ?_
            rw [if_neg h8]
            rw [nb3_y hn_0]
            rw [nb2_y hn_1]
            rw [nb1_y hn_2]
            refine ⟨(hF_3.mono (fun c j z => Or.inl z)).tr (hadd.2.2.mono (fun c j z => Or.inr z)), ?_, ?_, ?_⟩
            · exact (hadd.2.2.1 _ _ (by omega)).trans hfl_3
            · exact (hadd.2.2.1 _ _ (by omega)).trans ha_3
            · have e1 : nn (m_nl ν (nn ν) (nI p) (nI v) (nI y)) = nn ν + 1 := by
                show ix ((m_nl ν (nn ν) (nI p) (nI v) (nI y)).1 0 1) = _
                rw [nl_1, ix_nI (by omega)]
              rw [e1]; exact hadd.2.1
  · rw [b2i_0] at h8
    rw [Classical.not_not] at h8
    refine v_aload_n (pc := 7) (i := 0) F dX7_readLooker_7 rfl rfl ?_
    refine v_iload_n (pc := 8) (i := 2) F dX7_readLooker_8 rfl rfl ?_
    refine v_put (pc := 9) F fX7_15 dX7_readLooker_9 rfl rfl rfl hx ?_
    refine v_return (pc := 12) F dX7_readLooker_12 ?_
    rw [if_pos h8]
    exact RD.no j_pI_at (Fm.rf.pI (by omega))
