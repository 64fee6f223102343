/-! the class: likes, tell, lookerOf, place, looker, status -/
def s_tc (l : Nat) (v : Int32) (ν : j_M) : Int32 × j_M := if inQ 13 v = true then (ν.1 6 l, j_pI ν 6 l v) else rj (-2) 2 ν
def s_ta (l : Nat) (v : Int32) (ν : j_M) : Int32 × j_M := if inQ 100 v = true then (ν.1 4 l, j_pI ν 4 l v) else rj (-2) 2 ν
def s_ts (l : Nat) (v : Int32) (ν : j_M) : Int32 × j_M := if inM v = true then (ν.1 7 l, j_pI ν 7 l v) else rj (-2) 2 ν
theorem Rel.ag {μ m ν : j_M} {l : Nat} {v : Int32} (hM : MI ν) (h : Rel μ ν) (hl : l < nn ν) (hs : SQ m 1 (fun c i => if c = 4 ∧ i = l then v else ν.1 c i) (nn ν)) (hF : Fm (PC 1) μ m) : Rel m (j_pI ν 4 l v) := by
  have hn : nn (j_pI ν 4 l v) = nn ν := nn_off (by omega)
  refine h.scn hM hF (fun c j z => Or.inl z) ?_ (fun c j z => j_pI_off (by omega)) rfl
  rw [hn]; exact hs.1
theorem Rel.th {μ m ν : j_M} {p : Nat} {v : Int32} (hM : MI ν) (h : Rel μ ν) (hs : SQ m 1 (wth ν.1 p v) (nn ν)) (hF : Fm (PC 1) μ m) : Rel m (j_pI ν 1 p v) := by
  have hn : nn (j_pI ν 1 p v) = nn ν := nn_off (by omega)
  refine h.scn hM hF (fun c j z => Or.inl z) ?_ (fun c j z => j_pI_off (by omega)) rfl
  rw [hn]; exact hs.1
theorem Rel.nl {μ m ν : j_M} {k a g : Int32} (hM : MI ν) (h : Rel μ ν) (hs : SQ m 1 (nlW ν.1 (nn ν) k a g) (nn ν + 1)) (hF : Fm (PC 1) μ m) : Rel m (m_nl ν (nn ν) k a g) := by
  have hn : nn (m_nl ν (nn ν) k a g) = nn ν + 1 := nn_eq nl_1 hs.2
  refine h.scn hM hF (fun c j z => Or.inl z) ?_ (fun c j z => ?_) rfl
  · rw [hn, nl_W]; exact hs.1
  · rw [nl_W]; exact nlW_o (by omega) (by omega) (by omega)
theorem TH_M {v : Int32} (h : inM v = true) : TH v := by
  unfold inM at h
  rcases (Bool.or_eq_true _ _).mp h with q | q
  · exact Or.inl (by simpa using q)
  · obtain ⟨k, h1, h2⟩ := inR_of (by decide) q
    exact Or.inr ⟨k, h1, h2⟩

set_option maxRecDepth 100000 in
theorem c_X9_likes (l so is : Int32) (μ ν : j_M) (hM : MI ν) (hR : Rel μ ν) : Ct yX9_likes cX9_likes 6 (some .int) 2 ΛX [.ref 0, .int l, .int so, .int is] μ (pI fun r μ2 => r = (s_likes l so is ν).1 ∧ Rel μ2 (s_likes l so is ν).2) := by
  refine Ct.go (lo := [some (.ref 0), some (.int l), some (.int so), some (.int is), none, none]) (by decide) (Nat.le_of_ble_eq_true rfl) rfl rfl (fun X F => ?_)
  have F : Fx X cX9_likes RX9 2 (some .int) ΛX := F
  obtain ⟨n, hW, hsh, htp, him⟩ := id hM
  have hn := hW.1
  have hn8 := hW.2.1
  have hnn := nn_eq hn hn8
  have ho := hW.own
  have hpw := j_pw hn8
  have hS : SQ μ 1 ν.1 n := ⟨by have := hR.sc; rwa [hnn] at this, hn8⟩
  refine v_aload_n (pc := 0) (i := 0) F dX9_likes_0 rfl rfl ?_
  refine v_iload_n (pc := 1) (i := 1) F dX9_likes_1 rfl rfl ?_
  refine v_callVI (pc := 2) (As := [_]) (rest := []) (c := 9) F mX9_isLooker kX9_126 im_X9_isLooker se_X9_isLooker dX9_likes_2 rfl rfl (by decide) (c_X9_isLooker _ n ν.1 _ (hS)) (by decide) rfl rfl (Nat.le_of_ble_eq_true rfl) lx0 (fun x1 μ1 hp1 => ?_)
  rw [hp1.1, hp1.2]
  refine v_if_eq (pc := 5) (tgt := 15) F dX9_likes_5 (by decide) (fun h5_2 => ?_) (fun h5_2 => ?_)
  · rw [b2i_0] at h5_2
    refine v_aload_n (pc := 15) (i := 0) F dX9_likes_15 rfl rfl ?_
    refine v_bipush (pc := 16) (v := (-2)) F dX9_likes_16 (by decide) ?_
    refine v_callVI (pc := 18) (As := [_]) (rest := []) (c := 9) F mX9_refuse kX9_79 im_X9_refuse se_X9_refuse dX9_likes_18 rfl rfl (by decide) (c_X9_refuse (-2) 2 (by decide) (by decide) (by decide) _) (by decide) rfl rfl (Nat.le_of_ble_eq_true rfl) lx0 (fun x3 μ3 hp3 => ?_)
    rw [hp3.1, hp3.2]
    refine v_ireturn (pc := 21) F dX9_likes_21 (rfl) ?_
    simp only [s_likes, rj, hnn, h5_2, ↓reduceIte]
    refine ⟨?_, ?_⟩ <;> first | exact trivial | exact rfl | exact hR | exact Rel.rj hM hR (by decide)
  · rw [b2i_0] at h5_2
    rw [Classical.not_not] at h5_2
    obtain ⟨k_l, hk_l, he_l⟩ := inR_of (by omega) h5_2
    subst he_l
    have ek_l : ix (nI k_l) = k_l := nI_clamp (by omega)
    refine v_iload_n (pc := 8) (i := 2) F dX9_likes_8 rfl rfl ?_
    refine v_callSI (pc := 9) (As := [_]) (rest := []) F mX9_isSort kX9_168 sm_X9_isSort dX9_likes_9 (c_X9_isSort _ _) (by decide) rfl rfl (Nat.le_of_ble_eq_true rfl) (fun x4 μ4 hp4 => ?_)
    rw [hp4.1, hp4.2]
    refine v_if_ne (pc := 12) (tgt := 22) F dX9_likes_12 (by decide) (fun h12_5 => ?_) (fun h12_5 => ?_)
    · rw [b2i_0] at h12_5
      rw [Classical.not_not] at h12_5
      obtain ⟨k_so, hk_so, he_so⟩ := inR_of (by decide) h12_5
      subst he_so
      have ek_so : ix (nI k_so) = k_so := nI_clamp (by omega)
      refine v_aload_n (pc := 22) (i := 0) F dX9_likes_22 rfl rfl ?_
      refine v_getR (pc := 23) (o := 1) F fX9_12 dX9_likes_23 rfl lx0 ?_
      refine v_topR (y := 1) rfl ?_
      refine v_getR (pc := 26) (o := 3) F fX9_135 dX9_likes_26 rfl (lx9_0 lx0) ?_
      refine v_topR (y := 4) rfl ?_
      refine v_iload_n (pc := 29) (i := 1) F dX9_likes_29 rfl rfl ?_
      refine v_aald14N (pc := 30) (k0 := k_l) (x := 6 + 2 * k_l) F dX9_likes_30 (lx4_2 (lx9_0 lx0)) (rfl) (by omega) (by decide) (by simp only [j_ro]; first | rfl | omega | (split <;> omega)) ?_
      have ho6 : j_ob ΛX (6 + 2 * k_l) 3 := by
        have q := lxL (lx4_2 (lx9_0 lx0)) (j := k_l) (by omega)
        simp only [j_ro] at q
        exact (by first | exact q | (rw [show 6 + 2 * k_l = _ from (by first | rfl | omega)]; exact q))
      refine v_astore (pc := 31) (lo' := [some (.ref _), some (.int _), some (.int _), some (.int _), some (.ref _), _]) F dX9_likes_31 rfl (Nat.le_of_ble_eq_true rfl) rfl ?_
      refine v_aload (pc := 33) (i := 4) F dX9_likes_33 rfl ?_
      refine v_getI (pc := 35) F fX9_181 dX9_likes_35 rfl ho6 ?_
      refine v_topE (y := (ν.1 5 k_l)) ((hS.1.lk k_l (by omega)).li) ?_
      refine v_iload_n (pc := 38) (i := 2) F dX9_likes_38 rfl rfl ?_
      refine v_ishr (pc := 39) F dX9_likes_39 ?_
      refine v_iconst (pc := 40) (v := nI 1) F dX9_likes_40 (by decide) ?_
      refine v_iand (pc := 41) F dX9_likes_41 ?_
      refine v_istore (pc := 42) (lo' := [some (.ref _), some (.int _), some (.int _), some (.int _), some (.ref _), some (.int _)]) F dX9_likes_42 rfl (Nat.le_of_ble_eq_true rfl) rfl ?_
      refine v_aload (pc := 44) (i := 4) F dX9_likes_44 rfl ?_
      refine v_iload_n (pc := 46) (i := 2) F dX9_likes_46 rfl rfl ?_
      refine v_iload_n (pc := 47) (i := 3) F dX9_likes_47 rfl rfl ?_
      refine v_callVV (pc := 48) (As := [_, _]) (rest := []) (c := 3) F mX3_like kX9_184 im_X3_like se_X3_like dX9_likes_48 rfl rfl (by decide) (c_X3_like _ ho6 _ is _ _ ((hS.1.lk k_l (by omega)).li)) (by decide) rfl rfl (Nat.le_of_ble_eq_true rfl) ho6 (fun μ7 hp7 => ?_)
      rw [hp7]
      refine v_iload (pc := 51) (i := 5) F dX9_likes_51 rfl ?_
      refine v_ireturn (pc := 53) F dX9_likes_53 (rfl) ?_
      simp only [s_likes, rj, hnn, h5_2, ek_l, h12_5, ek_so, ↓reduceIte]
      exact ⟨(by first | exact trivial | exact rfl), hR.pk hM (by omega) (by omega) (by omega) (by omega) rfl⟩
    · rw [b2i_0] at h12_5
      refine v_aload_n (pc := 15) (i := 0) F dX9_likes_15 rfl rfl ?_
      refine v_bipush (pc := 16) (v := (-2)) F dX9_likes_16 (by decide) ?_
      refine v_callVI (pc := 18) (As := [_]) (rest := []) (c := 9) F mX9_refuse kX9_79 im_X9_refuse se_X9_refuse dX9_likes_18 rfl rfl (by decide) (c_X9_refuse (-2) 2 (by decide) (by decide) (by decide) _) (by decide) rfl rfl (Nat.le_of_ble_eq_true rfl) lx0 (fun x8 μ8 hp8 => ?_)
      rw [hp8.1, hp8.2]
      refine v_ireturn (pc := 21) F dX9_likes_21 (rfl) ?_
      simp only [s_likes, rj, hnn, h5_2, ek_l, h12_5, ↓reduceIte]
      refine ⟨?_, ?_⟩ <;> first | exact trivial | exact rfl | exact hR | exact Rel.rj hM hR (by decide)

set_option maxRecDepth 100000 in
theorem c_X9_tellComes (l : Nat) (v : Int32) (μ ν : j_M) (hM : MI ν) (hR : Rel μ ν) (hln : l < nn ν) : Ct yX9_tellComes cX9_tellComes 5 (some .int) 1 ΛX [.ref 0, .int (nI l), .int v] μ (pI fun r μ2 => r = (s_tc l v ν).1 ∧ Rel μ2 (s_tc l v ν).2) := by
  refine Ct.go (lo := [some (.ref 0), some (.int (nI l)), some (.int v), none, none]) (by decide) (Nat.le_of_ble_eq_true rfl) rfl rfl (fun X F => ?_)
  have F : Fx X cX9_tellComes RX9 1 (some .int) ΛX := F
  obtain ⟨n, hW, hsh, htp, him⟩ := id hM
  have hn := hW.1
  have hn8 := hW.2.1
  have hnn := nn_eq hn hn8
  have ho := hW.own
  have hpw := j_pw hn8
  have hS : SQ μ 1 ν.1 n := ⟨by have := hR.sc; rwa [hnn] at this, hn8⟩
  have hl : l < n := by rw [← hnn]; exact hln
  by_cases hq_v : inQ 13 v = true
  · skip
    obtain ⟨k_v, hk_v, he_v⟩ := inR_of (by decide) hq_v
    subst he_v
    have ek_v : ix (nI k_v) = k_v := nI_clamp (by omega)
    refine v_iload_n (pc := 0) (i := 2) F dX9_tellComes_0 rfl rfl ?_
    refine v_if_lt (pc := 1) (tgt := 10) F dX9_tellComes_1 (by decide) (fun h1_1 => ?_) (fun h1_1 => ?_)
    · rw [j_lt0 (by omega)] at h1_1
      exact h1_1.elim
    · rw [j_lt0 (by omega)] at h1_1
      refine v_iload_n (pc := 4) (i := 2) F dX9_tellComes_4 rfl rfl ?_
      refine v_bipush (pc := 5) (v := nI 12) F dX9_tellComes_5 (by decide) ?_
      refine v_icmp_le (pc := 7) (tgt := 17) F dX9_tellComes_7 (by decide) (fun h7_2 => ?_) (fun h7_2 => ?_)
      · rw [nI_leI (by omega) (by omega)] at h7_2
        refine v_aload_n (pc := 17) (i := 0) F dX9_tellComes_17 rfl rfl ?_
        refine v_getR (pc := 18) (o := 1) F fX9_12 dX9_tellComes_18 rfl lx0 ?_
        refine v_topR (y := 1) rfl ?_
        refine v_getR (pc := 21) (o := 3) F fX9_135 dX9_tellComes_21 rfl (lx9_0 lx0) ?_
        refine v_topR (y := 4) rfl ?_
        refine v_iload_n (pc := 24) (i := 1) F dX9_tellComes_24 rfl rfl ?_
        refine v_aald14N (pc := 25) (k0 := l) (x := 6 + 2 * l) F dX9_tellComes_25 (lx4_2 (lx9_0 lx0)) (rfl) (by omega) (by decide) (by simp only [j_ro]; first | rfl | omega | (split <;> omega)) ?_
        have ho3 : j_ob ΛX (6 + 2 * l) 3 := by
          have q := lxL (lx4_2 (lx9_0 lx0)) (j := l) (by omega)
          simp only [j_ro] at q
          exact (by first | exact q | (rw [show 6 + 2 * l = _ from (by first | rfl | omega)]; exact q))
        refine v_astore_n (pc := 26) (lo' := [some (.ref _), some (.int _), some (.int _), some (.ref _), _]) F dX9_tellComes_26 rfl rfl (Nat.le_of_ble_eq_true rfl) rfl ?_
        refine v_aload_n (pc := 27) (i := 3) F dX9_tellComes_27 rfl rfl ?_
        refine v_getI (pc := 28) F fX9_198 dX9_tellComes_28 rfl ho3 ?_
        refine v_topE (y := (ν.1 6 l)) ((hS.1.lk l (by omega)).c) ?_
        refine v_istore (pc := 31) (lo' := [some (.ref _), some (.int _), some (.int _), some (.ref _), some (.int _)]) F dX9_tellComes_31 rfl (Nat.le_of_ble_eq_true rfl) rfl ?_
        refine v_aload_n (pc := 33) (i := 3) F dX9_tellComes_33 rfl rfl ?_
        refine v_iload_n (pc := 34) (i := 2) F dX9_tellComes_34 rfl rfl ?_
        refine v_put (pc := 35) F fX9_198 dX9_tellComes_35 rfl rfl rfl ho3 ?_
        refine v_iload (pc := 38) (i := 4) F dX9_tellComes_38 rfl ?_
        refine v_ireturn (pc := 40) F dX9_tellComes_40 (rfl) ?_
        simp only [s_tc, rj, hnn, hq_v, ek_v, h1_1, h7_2, ↓reduceIte]
        exact ⟨(by first | exact trivial | exact rfl), hR.pk hM hln (by omega) (by omega) (by omega) rfl⟩
      · rw [nI_leI (by omega) (by omega)] at h7_2
        omega
  · skip
    refine v_iload_n (pc := 0) (i := 2) F dX9_tellComes_0 rfl rfl ?_
    refine v_if_lt (pc := 1) (tgt := 10) F dX9_tellComes_1 (by decide) (fun hneg_v => ?_) (fun hneg_v => ?_)
    · skip
      refine v_aload_n (pc := 10) (i := 0) F dX9_tellComes_10 rfl rfl ?_
      refine v_bipush (pc := 11) (v := (-2)) F dX9_tellComes_11 (by decide) ?_
      refine v_callVI (pc := 13) (As := [_]) (rest := []) (c := 9) F mX9_refuse kX9_79 im_X9_refuse se_X9_refuse dX9_tellComes_13 rfl rfl (by decide) (c_X9_refuse (-2) 2 (by decide) (by decide) (by decide) _) (by decide) rfl rfl (Nat.le_of_ble_eq_true rfl) lx0 (fun x5 μ5 hp5 => ?_)
      rw [hp5.1, hp5.2]
      refine v_ireturn (pc := 16) F dX9_tellComes_16 (rfl) ?_
      simp only [s_tc, rj, hnn, hq_v, hneg_v, ↓reduceIte]
      refine ⟨?_, ?_⟩ <;> first | exact trivial | exact rfl | exact hR | exact Rel.rj hM hR (by decide)
    · skip
      refine v_iload_n (pc := 4) (i := 2) F dX9_tellComes_4 rfl rfl ?_
      refine v_bipush (pc := 5) (v := nI 12) F dX9_tellComes_5 (by decide) ?_
      refine v_icmp_le (pc := 7) (tgt := 17) F dX9_tellComes_7 (by decide) (fun h7_6 => ?_) (fun h7_6 => ?_)
      · skip
        exact (inQ_no2 rfl (by decide) hq_v hneg_v h7_6).elim
      · skip
        refine v_aload_n (pc := 10) (i := 0) F dX9_tellComes_10 rfl rfl ?_
        refine v_bipush (pc := 11) (v := (-2)) F dX9_tellComes_11 (by decide) ?_
        refine v_callVI (pc := 13) (As := [_]) (rest := []) (c := 9) F mX9_refuse kX9_79 im_X9_refuse se_X9_refuse dX9_tellComes_13 rfl rfl (by decide) (c_X9_refuse (-2) 2 (by decide) (by decide) (by decide) _) (by decide) rfl rfl (Nat.le_of_ble_eq_true rfl) lx0 (fun x7 μ7 hp7 => ?_)
        rw [hp7.1, hp7.2]
        refine v_ireturn (pc := 16) F dX9_tellComes_16 (rfl) ?_
        simp only [s_tc, rj, hnn, hq_v, hneg_v, h7_6, ↓reduceIte]
        refine ⟨?_, ?_⟩ <;> first | exact trivial | exact rfl | exact hR | exact Rel.rj hM hR (by decide)

set_option maxRecDepth 100000 in
theorem c_X9_tellShine (l : Nat) (v : Int32) (μ ν : j_M) (hM : MI ν) (hR : Rel μ ν) (hln : l < nn ν) : Ct yX9_tellShine cX9_tellShine 5 (some .int) 2 ΛX [.ref 0, .int (nI l), .int v] μ (pI fun r μ2 => r = (s_ts l v ν).1 ∧ Rel μ2 (s_ts l v ν).2) := by
  refine Ct.go (lo := [some (.ref 0), some (.int (nI l)), some (.int v), none, none]) (by decide) (Nat.le_of_ble_eq_true rfl) rfl rfl (fun X F => ?_)
  have F : Fx X cX9_tellShine RX9 2 (some .int) ΛX := F
  obtain ⟨n, hW, hsh, htp, him⟩ := id hM
  have hn := hW.1
  have hn8 := hW.2.1
  have hnn := nn_eq hn hn8
  have ho := hW.own
  have hpw := j_pw hn8
  have hS : SQ μ 1 ν.1 n := ⟨by have := hR.sc; rwa [hnn] at this, hn8⟩
  have hl : l < n := by rw [← hnn]; exact hln
  refine v_iload_n (pc := 0) (i := 2) F dX9_tellShine_0 rfl rfl ?_
  refine v_callSI (pc := 1) (As := [_]) (rest := []) F mX9_isSortOrNone kX9_160 sm_X9_isSortOrNone dX9_tellShine_1 (c_X9_isSortOrNone _ _) (by decide) rfl rfl (Nat.le_of_ble_eq_true rfl) (fun x1 μ1 hp1 => ?_)
  rw [hp1.1, hp1.2]
  refine v_if_ne (pc := 4) (tgt := 14) F dX9_tellShine_4 (by decide) (fun h4_2 => ?_) (fun h4_2 => ?_)
  · rw [b2i_0] at h4_2
    rw [Classical.not_not] at h4_2
    refine v_aload_n (pc := 14) (i := 0) F dX9_tellShine_14 rfl rfl ?_
    refine v_getR (pc := 15) (o := 1) F fX9_12 dX9_tellShine_15 rfl lx0 ?_
    refine v_topR (y := 1) rfl ?_
    refine v_getR (pc := 18) (o := 3) F fX9_135 dX9_tellShine_18 rfl (lx9_0 lx0) ?_
    refine v_topR (y := 4) rfl ?_
    refine v_iload_n (pc := 21) (i := 1) F dX9_tellShine_21 rfl rfl ?_
    refine v_aald14N (pc := 22) (k0 := l) (x := 6 + 2 * l) F dX9_tellShine_22 (lx4_2 (lx9_0 lx0)) (rfl) (by omega) (by decide) (by simp only [j_ro]; first | rfl | omega | (split <;> omega)) ?_
    have ho3 : j_ob ΛX (6 + 2 * l) 3 := by
      have q := lxL (lx4_2 (lx9_0 lx0)) (j := l) (by omega)
      simp only [j_ro] at q
      exact (by first | exact q | (rw [show 6 + 2 * l = _ from (by first | rfl | omega)]; exact q))
    refine v_astore_n (pc := 23) (lo' := [some (.ref _), some (.int _), some (.int _), some (.ref _), _]) F dX9_tellShine_23 rfl rfl (Nat.le_of_ble_eq_true rfl) rfl ?_
    refine v_aload_n (pc := 24) (i := 3) F dX9_tellShine_24 rfl rfl ?_
    refine v_getI (pc := 25) F fX9_204 dX9_tellShine_25 rfl ho3 ?_
    refine v_topE (y := (ν.1 7 l)) ((hS.1.lk l (by omega)).sh) ?_
    refine v_istore (pc := 28) (lo' := [some (.ref _), some (.int _), some (.int _), some (.ref _), some (.int _)]) F dX9_tellShine_28 rfl (Nat.le_of_ble_eq_true rfl) rfl ?_
    refine v_aload_n (pc := 30) (i := 3) F dX9_tellShine_30 rfl rfl ?_
    refine v_iload_n (pc := 31) (i := 2) F dX9_tellShine_31 rfl rfl ?_
    refine v_put (pc := 32) F fX9_204 dX9_tellShine_32 rfl rfl rfl ho3 ?_
    refine v_iload (pc := 35) (i := 4) F dX9_tellShine_35 rfl ?_
    refine v_ireturn (pc := 37) F dX9_tellShine_37 (rfl) ?_
    simp only [s_ts, rj, hnn, h4_2, ↓reduceIte]
    exact ⟨(by first | exact trivial | exact rfl), hR.pk hM hln (by omega) (by omega) (by omega) rfl⟩
  · rw [b2i_0] at h4_2
    refine v_aload_n (pc := 7) (i := 0) F dX9_tellShine_7 rfl rfl ?_
    refine v_bipush (pc := 8) (v := (-2)) F dX9_tellShine_8 (by decide) ?_
    refine v_callVI (pc := 10) (As := [_]) (rest := []) (c := 9) F mX9_refuse kX9_79 im_X9_refuse se_X9_refuse dX9_tellShine_10 rfl rfl (by decide) (c_X9_refuse (-2) 2 (by decide) (by decide) (by decide) _) (by decide) rfl rfl (Nat.le_of_ble_eq_true rfl) lx0 (fun x4 μ4 hp4 => ?_)
    rw [hp4.1, hp4.2]
    refine v_ireturn (pc := 13) F dX9_tellShine_13 (rfl) ?_
    simp only [s_ts, rj, hnn, h4_2, ↓reduceIte]
    refine ⟨?_, ?_⟩ <;> first | exact trivial | exact rfl | exact hR | exact Rel.rj hM hR (by decide)

set_option maxRecDepth 100000 in
theorem c_X9_tellAge (l : Nat) (v : Int32) (μ ν : j_M) (hM : MI ν) (hR : Rel μ ν) (hln : l < nn ν) : Ct yX9_tellAge cX9_tellAge 4 (some .int) 2 ΛX [.ref 0, .int (nI l), .int v] μ (pI fun r μ2 => r = (s_ta l v ν).1 ∧ Rel μ2 (s_ta l v ν).2) := by
  refine Ct.go (lo := [some (.ref 0), some (.int (nI l)), some (.int v), none]) (by decide) (Nat.le_of_ble_eq_true rfl) rfl rfl (fun X F => ?_)
  have F : Fx X cX9_tellAge RX9 2 (some .int) ΛX := F
  obtain ⟨n, hW, hsh, htp, him⟩ := id hM
  have hn := hW.1
  have hn8 := hW.2.1
  have hnn := nn_eq hn hn8
  have ho := hW.own
  have hpw := j_pw hn8
  have hS : SQ μ 1 ν.1 n := ⟨by have := hR.sc; rwa [hnn] at this, hn8⟩
  have hl : l < n := by rw [← hnn]; exact hln
  refine v_iload_n (pc := 0) (i := 2) F dX9_tellAge_0 rfl rfl ?_
  refine v_callSI (pc := 1) (As := [_]) (rest := []) F mX9_isAge kX9_171 sm_X9_isAge dX9_tellAge_1 (c_X9_isAge _ _) (by decide) rfl rfl (Nat.le_of_ble_eq_true rfl) (fun x1 μ1 hp1 => ?_)
  rw [hp1.1, hp1.2]
  refine v_if_ne (pc := 4) (tgt := 14) F dX9_tellAge_4 (by decide) (fun h4_2 => ?_) (fun h4_2 => ?_)
  · rw [b2i_0] at h4_2
    rw [Classical.not_not] at h4_2
    refine v_aload_n (pc := 14) (i := 0) F dX9_tellAge_14 rfl rfl ?_
    refine v_getR (pc := 15) (o := 1) F fX9_12 dX9_tellAge_15 rfl lx0 ?_
    refine v_topR (y := 1) rfl ?_
    refine v_getR (pc := 18) (o := 3) F fX9_135 dX9_tellAge_18 rfl (lx9_0 lx0) ?_
    refine v_topR (y := 4) rfl ?_
    refine v_iload_n (pc := 21) (i := 1) F dX9_tellAge_21 rfl rfl ?_
    refine v_aald14N (pc := 22) (k0 := l) (x := 6 + 2 * l) F dX9_tellAge_22 (lx4_2 (lx9_0 lx0)) (rfl) (by omega) (by decide) (by simp only [j_ro]; first | rfl | omega | (split <;> omega)) ?_
    have ho3 : j_ob ΛX (6 + 2 * l) 3 := by
      have q := lxL (lx4_2 (lx9_0 lx0)) (j := l) (by omega)
      simp only [j_ro] at q
      exact (by first | exact q | (rw [show 6 + 2 * l = _ from (by first | rfl | omega)]; exact q))
    refine v_getI (pc := 23) F fX9_147 dX9_tellAge_23 rfl ho3 ?_
    refine v_topE (y := (ν.1 4 l)) ((hS.1.lk l (by omega)).g) ?_
    refine v_istore_n (pc := 26) (lo' := [some (.ref _), some (.int _), some (.int _), some (.int _)]) F dX9_tellAge_26 rfl rfl (Nat.le_of_ble_eq_true rfl) rfl ?_
    refine v_aload_n (pc := 27) (i := 0) F dX9_tellAge_27 rfl rfl ?_
    refine v_getR (pc := 28) (o := 1) F fX9_12 dX9_tellAge_28 rfl lx0 ?_
    refine v_topR (y := 1) rfl ?_
    refine v_iload_n (pc := 31) (i := 1) F dX9_tellAge_31 rfl rfl ?_
    refine v_iload_n (pc := 32) (i := 2) F dX9_tellAge_32 rfl rfl ?_
    refine v_callVV (pc := 33) (As := [_, _]) (rest := []) (c := 4) F mX4_putAge kX9_201 im_X4_putAge se_X4_putAge dX9_tellAge_33 rfl rfl (by decide) (c_X4_putAge 1 (lx9_0 lx0) n ν.1 _ hS l hl v) (by decide) rfl rfl (Nat.le_of_ble_eq_true rfl) (lx9_0 lx0) (fun μ4 hp4 => ?_)
    skip
    refine v_iload_n (pc := 36) (i := 3) F dX9_tellAge_36 rfl rfl ?_
    refine v_ireturn (pc := 37) F dX9_tellAge_37 (rfl) ?_
    simp only [s_ta, rj, hnn, h4_2, ↓reduceIte]
    exact ⟨(by first | exact trivial | exact rfl), hR.ag hM hln (by rw [hnn]; exact hp4.1) hp4.2⟩
  · rw [b2i_0] at h4_2
    refine v_aload_n (pc := 7) (i := 0) F dX9_tellAge_7 rfl rfl ?_
    refine v_bipush (pc := 8) (v := (-2)) F dX9_tellAge_8 (by decide) ?_
    refine v_callVI (pc := 10) (As := [_]) (rest := []) (c := 9) F mX9_refuse kX9_79 im_X9_refuse se_X9_refuse dX9_tellAge_10 rfl rfl (by decide) (c_X9_refuse (-2) 2 (by decide) (by decide) (by decide) _) (by decide) rfl rfl (Nat.le_of_ble_eq_true rfl) lx0 (fun x5 μ5 hp5 => ?_)
    rw [hp5.1, hp5.2]
    refine v_ireturn (pc := 13) F dX9_tellAge_13 (rfl) ?_
    simp only [s_ta, rj, hnn, h4_2, ↓reduceIte]
    refine ⟨?_, ?_⟩ <;> first | exact trivial | exact rfl | exact hR | exact Rel.rj hM hR (by decide)

set_option maxRecDepth 100000 in
theorem c_X9_tell (l what v : Int32) (μ ν : j_M) (hM : MI ν) (hR : Rel μ ν) : Ct yX9_tell cX9_tell 4 (some .int) 3 ΛX [.ref 0, .int l, .int what, .int v] μ (pI fun r μ2 => r = (s_tell l what v ν).1 ∧ Rel μ2 (s_tell l what v ν).2) := by
  refine Ct.go (lo := [some (.ref 0), some (.int l), some (.int what), some (.int v)]) (by decide) (Nat.le_of_ble_eq_true rfl) rfl rfl (fun X F => ?_)
  have F : Fx X cX9_tell RX9 3 (some .int) ΛX := F
  obtain ⟨n, hW, hsh, htp, him⟩ := id hM
  have hn := hW.1
  have hn8 := hW.2.1
  have hnn := nn_eq hn hn8
  have ho := hW.own
  have hpw := j_pw hn8
  have hS : SQ μ 1 ν.1 n := ⟨by have := hR.sc; rwa [hnn] at this, hn8⟩
  rcases inQ_c3 what with rfl | rfl | rfl | hqw
  · skip
    have hqw : inQ 3 (nI 0) = true := by decide
    have hix : ix (nI 0) = 0 := by decide
    have hc0 : (nI 0 = 0) = True := eq_true (by decide)
    have hc1 : (nI 0 = 1) = False := eq_false (by decide)
    have hc2 : (nI 0 = 2) = False := eq_false (by decide)
    refine v_aload_n (pc := 0) (i := 0) F dX9_tell_0 rfl rfl ?_
    refine v_iload_n (pc := 1) (i := 1) F dX9_tell_1 rfl rfl ?_
    refine v_callVI (pc := 2) (As := [_]) (rest := []) (c := 9) F mX9_isLooker kX9_126 im_X9_isLooker se_X9_isLooker dX9_tell_2 rfl rfl (by decide) (c_X9_isLooker _ n ν.1 _ (hS)) (by decide) rfl rfl (Nat.le_of_ble_eq_true rfl) lx0 (fun x1 μ1 hp1 => ?_)
    rw [hp1.1, hp1.2]
    refine v_if_ne (pc := 5) (tgt := 15) F dX9_tell_5 (by decide) (fun h5_2 => ?_) (fun h5_2 => ?_)
    · rw [b2i_0] at h5_2
      rw [Classical.not_not] at h5_2
      obtain ⟨k_l, hk_l, he_l⟩ := inR_of (by omega) h5_2
      subst he_l
      have ek_l : ix (nI k_l) = k_l := nI_clamp (by omega)
      refine v_iload_n (pc := 15) (i := 2) F dX9_tell_15 rfl rfl ?_
      refine v_tin (pc := 16) (tgt := 44) F dX9_tell_16 (by decide) (by decide) (by rfl) (by decide) ?_
      refine v_aload_n (pc := 44) (i := 0) F dX9_tell_44 rfl rfl ?_
      refine v_iload_n (pc := 45) (i := 1) F dX9_tell_45 rfl rfl ?_
      refine v_iload_n (pc := 46) (i := 3) F dX9_tell_46 rfl rfl ?_
      refine v_callVI (pc := 47) (As := [_, _]) (rest := []) (c := 9) F mX9_tellComes kX9_188 im_X9_tellComes se_X9_tellComes dX9_tell_47 rfl rfl (by decide) (c_X9_tellComes k_l _ _ ν hM hR (by omega)) (by decide) rfl rfl (Nat.le_of_ble_eq_true rfl) lx0 (fun x3 μ3 hp3 => ?_)
      skip
      refine v_ireturn (pc := 50) F dX9_tell_50 (rfl) ?_
      have e : s_tell (nI k_l) (nI 0) v ν = s_tc k_l v ν := by
        unfold s_tc
        simp only [s_tell, hnn, hqw, hix, hc0, hc1, hc2, h5_2, ek_l, ↓reduceIte]
      rw [e]
      exact hp3
    · rw [b2i_0] at h5_2
      refine v_aload_n (pc := 8) (i := 0) F dX9_tell_8 rfl rfl ?_
      refine v_bipush (pc := 9) (v := (-2)) F dX9_tell_9 (by decide) ?_
      refine v_callVI (pc := 11) (As := [_]) (rest := []) (c := 9) F mX9_refuse kX9_79 im_X9_refuse se_X9_refuse dX9_tell_11 rfl rfl (by decide) (c_X9_refuse (-2) 2 (by decide) (by decide) (by decide) _) (by decide) rfl rfl (Nat.le_of_ble_eq_true rfl) lx0 (fun x4 μ4 hp4 => ?_)
      rw [hp4.1, hp4.2]
      refine v_ireturn (pc := 14) F dX9_tell_14 (rfl) ?_
      simp only [s_tell, rj, hnn, hqw, hix, hc0, hc1, hc2, h5_2, ↓reduceIte]
      refine ⟨?_, ?_⟩ <;> first | exact trivial | exact rfl | exact hR | exact Rel.rj hM hR (by decide)
  · skip
    have hqw : inQ 3 (nI 1) = true := by decide
    have hix : ix (nI 1) = 1 := by decide
    have hc0 : (nI 1 = 0) = False := eq_false (by decide)
    have hc1 : (nI 1 = 1) = True := eq_true (by decide)
    have hc2 : (nI 1 = 2) = False := eq_false (by decide)
    refine v_aload_n (pc := 0) (i := 0) F dX9_tell_0 rfl rfl ?_
    refine v_iload_n (pc := 1) (i := 1) F dX9_tell_1 rfl rfl ?_
    refine v_callVI (pc := 2) (As := [_]) (rest := []) (c := 9) F mX9_isLooker kX9_126 im_X9_isLooker se_X9_isLooker dX9_tell_2 rfl rfl (by decide) (c_X9_isLooker _ n ν.1 _ (hS)) (by decide) rfl rfl (Nat.le_of_ble_eq_true rfl) lx0 (fun x5 μ5 hp5 => ?_)
    rw [hp5.1, hp5.2]
    refine v_if_ne (pc := 5) (tgt := 15) F dX9_tell_5 (by decide) (fun h5_6 => ?_) (fun h5_6 => ?_)
    · rw [b2i_0] at h5_6
      rw [Classical.not_not] at h5_6
      obtain ⟨k_l, hk_l, he_l⟩ := inR_of (by omega) h5_6
      subst he_l
      have ek_l : ix (nI k_l) = k_l := nI_clamp (by omega)
      refine v_iload_n (pc := 15) (i := 2) F dX9_tell_15 rfl rfl ?_
      refine v_tin (pc := 16) (tgt := 51) F dX9_tell_16 (by decide) (by decide) (by rfl) (by decide) ?_
      refine v_aload_n (pc := 51) (i := 0) F dX9_tell_51 rfl rfl ?_
      refine v_iload_n (pc := 52) (i := 1) F dX9_tell_52 rfl rfl ?_
      refine v_iload_n (pc := 53) (i := 3) F dX9_tell_53 rfl rfl ?_
      refine v_callVI (pc := 54) (As := [_, _]) (rest := []) (c := 9) F mX9_tellAge kX9_192 im_X9_tellAge se_X9_tellAge dX9_tell_54 rfl rfl (by decide) (c_X9_tellAge k_l _ _ ν hM hR (by omega)) (by decide) rfl rfl (Nat.le_of_ble_eq_true rfl) lx0 (fun x7 μ7 hp7 => ?_)
      skip
      refine v_ireturn (pc := 57) F dX9_tell_57 (rfl) ?_
      have e : s_tell (nI k_l) (nI 1) v ν = s_ta k_l v ν := by
        unfold s_ta
        simp only [s_tell, hnn, hqw, hix, hc0, hc1, hc2, h5_6, ek_l, ↓reduceIte]
      rw [e]
      exact hp7
    · rw [b2i_0] at h5_6
      refine v_aload_n (pc := 8) (i := 0) F dX9_tell_8 rfl rfl ?_
      refine v_bipush (pc := 9) (v := (-2)) F dX9_tell_9 (by decide) ?_
      refine v_callVI (pc := 11) (As := [_]) (rest := []) (c := 9) F mX9_refuse kX9_79 im_X9_refuse se_X9_refuse dX9_tell_11 rfl rfl (by decide) (c_X9_refuse (-2) 2 (by decide) (by decide) (by decide) _) (by decide) rfl rfl (Nat.le_of_ble_eq_true rfl) lx0 (fun x8 μ8 hp8 => ?_)
      rw [hp8.1, hp8.2]
      refine v_ireturn (pc := 14) F dX9_tell_14 (rfl) ?_
      simp only [s_tell, rj, hnn, hqw, hix, hc0, hc1, hc2, h5_6, ↓reduceIte]
      refine ⟨?_, ?_⟩ <;> first | exact trivial | exact rfl | exact hR | exact Rel.rj hM hR (by decide)
  · skip
    have hqw : inQ 3 (nI 2) = true := by decide
    have hix : ix (nI 2) = 2 := by decide
    have hc0 : (nI 2 = 0) = False := eq_false (by decide)
    have hc1 : (nI 2 = 1) = False := eq_false (by decide)
    have hc2 : (nI 2 = 2) = True := eq_true (by decide)
    refine v_aload_n (pc := 0) (i := 0) F dX9_tell_0 rfl rfl ?_
    refine v_iload_n (pc := 1) (i := 1) F dX9_tell_1 rfl rfl ?_
    refine v_callVI (pc := 2) (As := [_]) (rest := []) (c := 9) F mX9_isLooker kX9_126 im_X9_isLooker se_X9_isLooker dX9_tell_2 rfl rfl (by decide) (c_X9_isLooker _ n ν.1 _ (hS)) (by decide) rfl rfl (Nat.le_of_ble_eq_true rfl) lx0 (fun x9 μ9 hp9 => ?_)
    rw [hp9.1, hp9.2]
    refine v_if_ne (pc := 5) (tgt := 15) F dX9_tell_5 (by decide) (fun h5_10 => ?_) (fun h5_10 => ?_)
    · rw [b2i_0] at h5_10
      rw [Classical.not_not] at h5_10
      obtain ⟨k_l, hk_l, he_l⟩ := inR_of (by omega) h5_10
      subst he_l
      have ek_l : ix (nI k_l) = k_l := nI_clamp (by omega)
      refine v_iload_n (pc := 15) (i := 2) F dX9_tell_15 rfl rfl ?_
      refine v_tin (pc := 16) (tgt := 58) F dX9_tell_16 (by decide) (by decide) (by rfl) (by decide) ?_
      refine v_aload_n (pc := 58) (i := 0) F dX9_tell_58 rfl rfl ?_
      refine v_iload_n (pc := 59) (i := 1) F dX9_tell_59 rfl rfl ?_
      refine v_iload_n (pc := 60) (i := 3) F dX9_tell_60 rfl rfl ?_
      refine v_callVI (pc := 61) (As := [_, _]) (rest := []) (c := 9) F mX9_tellShine kX9_195 im_X9_tellShine se_X9_tellShine dX9_tell_61 rfl rfl (by decide) (c_X9_tellShine k_l _ _ ν hM hR (by omega)) (by decide) rfl rfl (Nat.le_of_ble_eq_true rfl) lx0 (fun x11 μ11 hp11 => ?_)
      skip
      refine v_ireturn (pc := 64) F dX9_tell_64 (rfl) ?_
      have e : s_tell (nI k_l) (nI 2) v ν = s_ts k_l v ν := by
        unfold s_ts
        simp only [s_tell, hnn, hqw, hix, hc0, hc1, hc2, h5_10, ek_l, ↓reduceIte]
      rw [e]
      exact hp11
    · rw [b2i_0] at h5_10
      refine v_aload_n (pc := 8) (i := 0) F dX9_tell_8 rfl rfl ?_
      refine v_bipush (pc := 9) (v := (-2)) F dX9_tell_9 (by decide) ?_
      refine v_callVI (pc := 11) (As := [_]) (rest := []) (c := 9) F mX9_refuse kX9_79 im_X9_refuse se_X9_refuse dX9_tell_11 rfl rfl (by decide) (c_X9_refuse (-2) 2 (by decide) (by decide) (by decide) _) (by decide) rfl rfl (Nat.le_of_ble_eq_true rfl) lx0 (fun x12 μ12 hp12 => ?_)
      rw [hp12.1, hp12.2]
      refine v_ireturn (pc := 14) F dX9_tell_14 (rfl) ?_
      simp only [s_tell, rj, hnn, hqw, hix, hc0, hc1, hc2, h5_10, ↓reduceIte]
      refine ⟨?_, ?_⟩ <;> first | exact trivial | exact rfl | exact hR | exact Rel.rj hM hR (by decide)
  · skip
    refine v_aload_n (pc := 0) (i := 0) F dX9_tell_0 rfl rfl ?_
    refine v_iload_n (pc := 1) (i := 1) F dX9_tell_1 rfl rfl ?_
    refine v_callVI (pc := 2) (As := [_]) (rest := []) (c := 9) F mX9_isLooker kX9_126 im_X9_isLooker se_X9_isLooker dX9_tell_2 rfl rfl (by decide) (c_X9_isLooker _ n ν.1 _ (hS)) (by decide) rfl rfl (Nat.le_of_ble_eq_true rfl) lx0 (fun x13 μ13 hp13 => ?_)
    rw [hp13.1, hp13.2]
    refine v_if_ne (pc := 5) (tgt := 15) F dX9_tell_5 (by decide) (fun h5_14 => ?_) (fun h5_14 => ?_)
    · rw [b2i_0] at h5_14
      rw [Classical.not_not] at h5_14
      obtain ⟨k_l, hk_l, he_l⟩ := inR_of (by omega) h5_14
      subst he_l
      have ek_l : ix (nI k_l) = k_l := nI_clamp (by omega)
      refine v_iload_n (pc := 15) (i := 2) F dX9_tell_15 rfl rfl ?_
      refine v_tout (pc := 16) (tgt := 65) F dX9_tell_16 (by have := inQ_out (by decide) hqw; omega) (by decide) ?_
      refine v_aload_n (pc := 65) (i := 0) F dX9_tell_65 rfl rfl ?_
      refine v_bipush (pc := 66) (v := (-2)) F dX9_tell_66 (by decide) ?_
      refine v_callVI (pc := 68) (As := [_]) (rest := []) (c := 9) F mX9_refuse kX9_79 im_X9_refuse se_X9_refuse dX9_tell_68 rfl rfl (by decide) (c_X9_refuse (-2) 2 (by decide) (by decide) (by decide) _) (by decide) rfl rfl (Nat.le_of_ble_eq_true rfl) lx0 (fun x15 μ15 hp15 => ?_)
      rw [hp15.1, hp15.2]
      refine v_ireturn (pc := 71) F dX9_tell_71 (rfl) ?_
      simp only [s_tell, rj, hnn, hqw, h5_14, ek_l, ↓reduceIte]
      refine ⟨?_, ?_⟩ <;> first | exact trivial | exact rfl | exact hR | exact Rel.rj hM hR (by decide)
    · rw [b2i_0] at h5_14
      refine v_aload_n (pc := 8) (i := 0) F dX9_tell_8 rfl rfl ?_
      refine v_bipush (pc := 9) (v := (-2)) F dX9_tell_9 (by decide) ?_
      refine v_callVI (pc := 11) (As := [_]) (rest := []) (c := 9) F mX9_refuse kX9_79 im_X9_refuse se_X9_refuse dX9_tell_11 rfl rfl (by decide) (c_X9_refuse (-2) 2 (by decide) (by decide) (by decide) _) (by decide) rfl rfl (Nat.le_of_ble_eq_true rfl) lx0 (fun x16 μ16 hp16 => ?_)
      rw [hp16.1, hp16.2]
      refine v_ireturn (pc := 14) F dX9_tell_14 (rfl) ?_
      simp only [s_tell, rj, hnn, hqw, h5_14, ↓reduceIte]
      refine ⟨?_, ?_⟩ <;> first | exact trivial | exact rfl | exact hR | exact Rel.rj hM hR (by decide)

set_option maxRecDepth 100000 in
theorem c_X9_lookerOf (l what : Int32) (μ ν : j_M) (hM : MI ν) (hR : Rel μ ν) : Ct yX9_lookerOf cX9_lookerOf 4 (some .int) 2 ΛX [.ref 0, .int l, .int what] μ (pI fun r μ2 => r = (s_lookerOf l what ν).1 ∧ Rel μ2 (s_lookerOf l what ν).2) := by
  refine Ct.go (lo := [some (.ref 0), some (.int l), some (.int what), none]) (by decide) (Nat.le_of_ble_eq_true rfl) rfl rfl (fun X F => ?_)
  have F : Fx X cX9_lookerOf RX9 2 (some .int) ΛX := F
  obtain ⟨n, hW, hsh, htp, him⟩ := id hM
  have hn := hW.1
  have hn8 := hW.2.1
  have hnn := nn_eq hn hn8
  have ho := hW.own
  have hpw := j_pw hn8
  have hS : SQ μ 1 ν.1 n := ⟨by have := hR.sc; rwa [hnn] at this, hn8⟩
  refine v_aload_n (pc := 0) (i := 0) F dX9_lookerOf_0 rfl rfl ?_
  refine v_iload_n (pc := 1) (i := 1) F dX9_lookerOf_1 rfl rfl ?_
  refine v_callVI (pc := 2) (As := [_]) (rest := []) (c := 9) F mX9_isLooker kX9_126 im_X9_isLooker se_X9_isLooker dX9_lookerOf_2 rfl rfl (by decide) (c_X9_isLooker _ n ν.1 _ (hS)) (by decide) rfl rfl (Nat.le_of_ble_eq_true rfl) lx0 (fun x1 μ1 hp1 => ?_)
  rw [hp1.1, hp1.2]
  refine v_if_ne (pc := 5) (tgt := 15) F dX9_lookerOf_5 (by decide) (fun h5_2 => ?_) (fun h5_2 => ?_)
  · rw [b2i_0] at h5_2
    rw [Classical.not_not] at h5_2
    obtain ⟨k_l, hk_l, he_l⟩ := inR_of (by omega) h5_2
    subst he_l
    have ek_l : ix (nI k_l) = k_l := nI_clamp (by omega)
    refine v_aload_n (pc := 15) (i := 0) F dX9_lookerOf_15 rfl rfl ?_
    refine v_getR (pc := 16) (o := 1) F fX9_12 dX9_lookerOf_16 rfl lx0 ?_
    refine v_topR (y := 1) rfl ?_
    refine v_getR (pc := 19) (o := 3) F fX9_135 dX9_lookerOf_19 rfl (lx9_0 lx0) ?_
    refine v_topR (y := 4) rfl ?_
    refine v_iload_n (pc := 22) (i := 1) F dX9_lookerOf_22 rfl rfl ?_
    refine v_aald14N (pc := 23) (k0 := k_l) (x := 6 + 2 * k_l) F dX9_lookerOf_23 (lx4_2 (lx9_0 lx0)) (rfl) (by omega) (by decide) (by simp only [j_ro]; first | rfl | omega | (split <;> omega)) ?_
    have ho3 : j_ob ΛX (6 + 2 * k_l) 3 := by
      have q := lxL (lx4_2 (lx9_0 lx0)) (j := k_l) (by omega)
      simp only [j_ro] at q
      exact (by first | exact q | (rw [show 6 + 2 * k_l = _ from (by first | rfl | omega)]; exact q))
    refine v_astore_n (pc := 24) (lo' := [some (.ref _), some (.int _), some (.int _), some (.ref _)]) F dX9_lookerOf_24 rfl rfl (Nat.le_of_ble_eq_true rfl) rfl ?_
    refine v_iload_n (pc := 25) (i := 2) F dX9_lookerOf_25 rfl rfl ?_
    by_cases hs0 : what = 0
    · refine v_tin (pc := 26) (tgt := 64) F dX9_lookerOf_26 (by rw [hs0]; decide) (by rw [hs0]; decide) (by rw [hs0]; rfl) (by decide) ?_
      refine v_aload_n (pc := 64) (i := 3) F dX9_lookerOf_64 rfl rfl ?_
      refine v_getI (pc := 65) F fX9_139 dX9_lookerOf_65 rfl ho3 ?_
      refine v_topE (y := (ν.1 2 k_l)) ((hS.1.lk k_l (by omega)).k) ?_
      refine v_ireturn (pc := 68) F dX9_lookerOf_68 (rfl) ?_
      simp only [s_lookerOf, rj, hnn, h5_2, ek_l, hs0, ↓reduceIte]
      refine ⟨?_, ?_⟩ <;> first | exact trivial | exact rfl | exact hR | exact Rel.rj hM hR (by decide)
    by_cases hs1 : what = 1
    · refine v_tin (pc := 26) (tgt := 69) F dX9_lookerOf_26 (by rw [hs1]; decide) (by rw [hs1]; decide) (by rw [hs1]; rfl) (by decide) ?_
      refine v_aload_n (pc := 69) (i := 3) F dX9_lookerOf_69 rfl rfl ?_
      refine v_getI (pc := 70) F fX9_224 dX9_lookerOf_70 rfl ho3 ?_
      refine v_topE (y := (ν.1 3 k_l)) ((hS.1.lk k_l (by omega)).a) ?_
      refine v_ireturn (pc := 73) F dX9_lookerOf_73 (rfl) ?_
      simp only [s_lookerOf, rj, hnn, h5_2, ek_l, hs0, hs1, ↓reduceIte]
      refine ⟨?_, ?_⟩ <;> first | exact trivial | exact rfl | exact hR | exact Rel.rj hM hR (by decide)
    by_cases hs2 : what = 2
    · refine v_tin (pc := 26) (tgt := 74) F dX9_lookerOf_26 (by rw [hs2]; decide) (by rw [hs2]; decide) (by rw [hs2]; rfl) (by decide) ?_
      refine v_aload_n (pc := 74) (i := 3) F dX9_lookerOf_74 rfl rfl ?_
      refine v_getI (pc := 75) F fX9_147 dX9_lookerOf_75 rfl ho3 ?_
      refine v_topE (y := (ν.1 4 k_l)) ((hS.1.lk k_l (by omega)).g) ?_
      refine v_ireturn (pc := 78) F dX9_lookerOf_78 (rfl) ?_
      simp only [s_lookerOf, rj, hnn, h5_2, ek_l, hs0, hs1, hs2, ↓reduceIte]
      refine ⟨?_, ?_⟩ <;> first | exact trivial | exact rfl | exact hR | exact Rel.rj hM hR (by decide)
    by_cases hs3 : what = 3
    · refine v_tin (pc := 26) (tgt := 79) F dX9_lookerOf_26 (by rw [hs3]; decide) (by rw [hs3]; decide) (by rw [hs3]; rfl) (by decide) ?_
      refine v_aload_n (pc := 79) (i := 3) F dX9_lookerOf_79 rfl rfl ?_
      refine v_getI (pc := 80) F fX9_181 dX9_lookerOf_80 rfl ho3 ?_
      refine v_topE (y := (ν.1 5 k_l)) ((hS.1.lk k_l (by omega)).li) ?_
      refine v_ireturn (pc := 83) F dX9_lookerOf_83 (rfl) ?_
      simp only [s_lookerOf, rj, hnn, h5_2, ek_l, hs0, hs1, hs2, hs3, ↓reduceIte]
      refine ⟨?_, ?_⟩ <;> first | exact trivial | exact rfl | exact hR | exact Rel.rj hM hR (by decide)
    by_cases hs4 : what = 4
    · refine v_tin (pc := 26) (tgt := 84) F dX9_lookerOf_26 (by rw [hs4]; decide) (by rw [hs4]; decide) (by rw [hs4]; rfl) (by decide) ?_
      refine v_aload_n (pc := 84) (i := 3) F dX9_lookerOf_84 rfl rfl ?_
      refine v_getI (pc := 85) F fX9_198 dX9_lookerOf_85 rfl ho3 ?_
      refine v_topE (y := (ν.1 6 k_l)) ((hS.1.lk k_l (by omega)).c) ?_
      refine v_ireturn (pc := 88) F dX9_lookerOf_88 (rfl) ?_
      simp only [s_lookerOf, rj, hnn, h5_2, ek_l, hs0, hs1, hs2, hs3, hs4, ↓reduceIte]
      refine ⟨?_, ?_⟩ <;> first | exact trivial | exact rfl | exact hR | exact Rel.rj hM hR (by decide)
    by_cases hs5 : what = 5
    · refine v_tin (pc := 26) (tgt := 89) F dX9_lookerOf_26 (by rw [hs5]; decide) (by rw [hs5]; decide) (by rw [hs5]; rfl) (by decide) ?_
      refine v_aload_n (pc := 89) (i := 3) F dX9_lookerOf_89 rfl rfl ?_
      refine v_getI (pc := 90) F fX9_204 dX9_lookerOf_90 rfl ho3 ?_
      refine v_topE (y := (ν.1 7 k_l)) ((hS.1.lk k_l (by omega)).sh) ?_
      refine v_ireturn (pc := 93) F dX9_lookerOf_93 (rfl) ?_
      simp only [s_lookerOf, rj, hnn, h5_2, ek_l, hs0, hs1, hs2, hs3, hs4, hs5, ↓reduceIte]
      refine ⟨?_, ?_⟩ <;> first | exact trivial | exact rfl | exact hR | exact Rel.rj hM hR (by decide)
    refine v_tout (pc := 26) (tgt := 94) F dX9_lookerOf_26 (j_sw05 hs0 hs1 hs2 hs3 hs4 hs5) (by decide) ?_
    refine v_iload_n (pc := 94) (i := 2) F dX9_lookerOf_94 rfl rfl ?_
    refine v_callSI (pc := 95) (As := [_]) (rest := []) F mX9_isHas kX9_227 sm_X9_isHas dX9_lookerOf_95 (c_X9_isHas _ _) (by decide) rfl rfl (Nat.le_of_ble_eq_true rfl) (fun x10 μ10 hp10 => ?_)
    rw [hp10.1, hp10.2]
    refine v_if_eq (pc := 98) (tgt := 113) F dX9_lookerOf_98 (by decide) (fun hb => ?_) (fun hb => ?_)
    · rw [b2i_0] at hb
      refine v_aload_n (pc := 113) (i := 0) F dX9_lookerOf_113 rfl rfl ?_
      refine v_bipush (pc := 114) (v := (-2)) F dX9_lookerOf_114 (by decide) ?_
      refine v_callVI (pc := 116) (As := [_]) (rest := []) (c := 9) F mX9_refuse kX9_79 im_X9_refuse se_X9_refuse dX9_lookerOf_116 rfl rfl (by decide) (c_X9_refuse (-2) 2 (by decide) (by decide) (by decide) _) (by decide) rfl rfl (Nat.le_of_ble_eq_true rfl) lx0 (fun x12 μ12 hp12 => ?_)
      rw [hp12.1, hp12.2]
      refine v_ireturn (pc := 119) F dX9_lookerOf_119 (rfl) ?_
      simp only [s_lookerOf, rj, hnn, h5_2, ek_l, hb, hs0, hs1, hs2, hs3, hs4, hs5, ↓reduceIte]
      refine ⟨?_, ?_⟩ <;> first | exact trivial | exact rfl | exact hR | exact Rel.rj hM hR (by decide)
    · rw [b2i_0] at hb
      rw [Classical.not_not] at hb
      obtain ⟨kw, hw1, hw2, hw3⟩ := inB_of (by decide) (by decide) hb
      subst hw3
      have ekw : ix (nI kw) = kw := ix_nI (by omega)
      have e8 : 8 * k_l + (kw - 10) = 8 * k_l + kw - 10 := by omega
      refine v_aload_n (pc := 101) (i := 3) F dX9_lookerOf_101 rfl rfl ?_
      refine v_getR (pc := 102) (o := 1) F fX9_230 dX9_lookerOf_102 rfl ho3 ?_
      refine v_topR (y := 6 + 2 * k_l + 1) rfl ?_
      refine v_iload_n (pc := 105) (i := 2) F dX9_lookerOf_105 rfl rfl ?_
      refine v_bipush (pc := 106) (v := nI 10) F dX9_lookerOf_106 (by decide) ?_
      refine v_isub (pc := 108) F dX9_lookerOf_108 ?_
      refine v_topE (pk_sub (by omega)) ?_
      refine v_ialdN (pc := 109) (k0 := kw - 10) F dX9_lookerOf_109 (lx3_0 ho3) (rfl) (by omega) (by decide) ?_
      refine v_topE (y := (ν.1 8 (8 * k_l + (kw - 10)))) ((hS.1.lk k_l (by omega)).ha (kw - 10) (by omega)) ?_
      refine v_goto (pc := 110) (tgt := 119) F dX9_lookerOf_110 (by decide) ?_
      refine v_ireturn (pc := 119) F dX9_lookerOf_119 (rfl) ?_
      simp only [s_lookerOf, rj, hnn, h5_2, ek_l, hb, ekw, hs0, hs1, hs2, hs3, hs4, hs5, ↓reduceIte]
      rw [e8]
      refine ⟨?_, ?_⟩ <;> first | exact trivial | exact rfl | exact hR | exact Rel.rj hM hR (by decide)
  · rw [b2i_0] at h5_2
    refine v_aload_n (pc := 8) (i := 0) F dX9_lookerOf_8 rfl rfl ?_
    refine v_bipush (pc := 9) (v := (-2)) F dX9_lookerOf_9 (by decide) ?_
    refine v_callVI (pc := 11) (As := [_]) (rest := []) (c := 9) F mX9_refuse kX9_79 im_X9_refuse se_X9_refuse dX9_lookerOf_11 rfl rfl (by decide) (c_X9_refuse (-2) 2 (by decide) (by decide) (by decide) _) (by decide) rfl rfl (Nat.le_of_ble_eq_true rfl) lx0 (fun x13 μ13 hp13 => ?_)
    rw [hp13.1, hp13.2]
    refine v_ireturn (pc := 14) F dX9_lookerOf_14 (rfl) ?_
    simp only [s_lookerOf, rj, hnn, h5_2, ↓reduceIte]
    refine ⟨?_, ?_⟩ <;> first | exact trivial | exact rfl | exact hR | exact Rel.rj hM hR (by decide)

set_option maxRecDepth 100000 in
theorem c_X9_place (p so : Int32) (μ ν : j_M) (hM : MI ν) (hR : Rel μ ν) : Ct yX9_place cX9_place 4 (some .int) 3 ΛX [.ref 0, .int p, .int so] μ (pI fun r μ2 => r = (s_place p so ν).1 ∧ Rel μ2 (s_place p so ν).2) := by
  refine Ct.go (lo := [some (.ref 0), some (.int p), some (.int so), none]) (by decide) (Nat.le_of_ble_eq_true rfl) rfl rfl (fun X F => ?_)
  have F : Fx X cX9_place RX9 3 (some .int) ΛX := F
  obtain ⟨n, hW, hsh, htp, him⟩ := id hM
  have hn := hW.1
  have hn8 := hW.2.1
  have hnn := nn_eq hn hn8
  have ho := hW.own
  have hpw := j_pw hn8
  have hS : SQ μ 1 ν.1 n := ⟨by have := hR.sc; rwa [hnn] at this, hn8⟩
  refine v_iload_n (pc := 0) (i := 1) F dX9_place_0 rfl rfl ?_
  refine v_callSI (pc := 1) (As := [_]) (rest := []) F mX9_isPlace kX9_157 sm_X9_isPlace dX9_place_1 (c_X9_isPlace _ _) (by decide) rfl rfl (Nat.le_of_ble_eq_true rfl) (fun x1 μ1 hp1 => ?_)
  rw [hp1.1, hp1.2]
  refine v_if_eq (pc := 4) (tgt := 14) F dX9_place_4 (by decide) (fun h4_2 => ?_) (fun h4_2 => ?_)
  · rw [b2i_0] at h4_2
    refine v_aload_n (pc := 14) (i := 0) F dX9_place_14 rfl rfl ?_
    refine v_bipush (pc := 15) (v := (-2)) F dX9_place_15 (by decide) ?_
    refine v_callVI (pc := 17) (As := [_]) (rest := []) (c := 9) F mX9_refuse kX9_79 im_X9_refuse se_X9_refuse dX9_place_17 rfl rfl (by decide) (c_X9_refuse (-2) 2 (by decide) (by decide) (by decide) _) (by decide) rfl rfl (Nat.le_of_ble_eq_true rfl) lx0 (fun x3 μ3 hp3 => ?_)
    rw [hp3.1, hp3.2]
    refine v_ireturn (pc := 20) F dX9_place_20 (rfl) ?_
    simp only [s_place, rj, hnn, h4_2, ↓reduceIte]
    refine ⟨?_, ?_⟩ <;> first | exact trivial | exact rfl | exact hR | exact Rel.rj hM hR (by decide)
  · rw [b2i_0] at h4_2
    rw [Classical.not_not] at h4_2
    obtain ⟨k_p, hk_p, he_p⟩ := inR_of (by decide) h4_2
    subst he_p
    have ek_p : ix (nI k_p) = k_p := nI_clamp (by omega)
    refine v_iload_n (pc := 7) (i := 2) F dX9_place_7 rfl rfl ?_
    refine v_callSI (pc := 8) (As := [_]) (rest := []) F mX9_isSortOrNone kX9_160 sm_X9_isSortOrNone dX9_place_8 (c_X9_isSortOrNone _ _) (by decide) rfl rfl (Nat.le_of_ble_eq_true rfl) (fun x4 μ4 hp4 => ?_)
    rw [hp4.1, hp4.2]
    refine v_if_ne (pc := 11) (tgt := 21) F dX9_place_11 (by decide) (fun h11_5 => ?_) (fun h11_5 => ?_)
    · rw [b2i_0] at h11_5
      rw [Classical.not_not] at h11_5
      refine v_aload_n (pc := 21) (i := 0) F dX9_place_21 rfl rfl ?_
      refine v_getR (pc := 22) (o := 1) F fX9_12 dX9_place_22 rfl lx0 ?_
      refine v_topR (y := 1) rfl ?_
      refine v_getR (pc := 25) (o := 1) F fX9_163 dX9_place_25 rfl (lx9_0 lx0) ?_
      refine v_topR (y := 2) rfl ?_
      refine v_iload_n (pc := 28) (i := 1) F dX9_place_28 rfl rfl ?_
      refine v_ialdN (pc := 29) (k0 := k_p) F dX9_place_29 (lx4_0 (lx9_0 lx0)) (rfl) (by omega) (by decide) ?_
      refine v_topE (y := (ν.1 1 k_p)) (hS.1.srt k_p (by omega)) ?_
      refine v_istore_n (pc := 30) (lo' := [some (.ref _), some (.int _), some (.int _), some (.int _)]) F dX9_place_30 rfl rfl (Nat.le_of_ble_eq_true rfl) rfl ?_
      refine v_aload_n (pc := 31) (i := 0) F dX9_place_31 rfl rfl ?_
      refine v_getR (pc := 32) (o := 1) F fX9_12 dX9_place_32 rfl lx0 ?_
      refine v_topR (y := 1) rfl ?_
      refine v_iload_n (pc := 35) (i := 1) F dX9_place_35 rfl rfl ?_
      refine v_iload_n (pc := 36) (i := 2) F dX9_place_36 rfl rfl ?_
      refine v_callVV (pc := 37) (As := [_, _]) (rest := []) (c := 4) F mX4_put kX9_166 im_X4_put se_X4_put dX9_place_37 rfl rfl (by decide) (c_X4_put 1 (lx9_0 lx0) n ν.1 _ hS hW.t k_p hk_p so (TH_M h11_5)) (by decide) rfl rfl (Nat.le_of_ble_eq_true rfl) (lx9_0 lx0) (fun μ6 hp6 => ?_)
      skip
      refine v_iload_n (pc := 40) (i := 3) F dX9_place_40 rfl rfl ?_
      refine v_ireturn (pc := 41) F dX9_place_41 (rfl) ?_
      simp only [s_place, rj, hnn, h4_2, ek_p, h11_5, ↓reduceIte]
      exact ⟨(by first | exact trivial | exact rfl), hR.th hM (by rw [hnn]; exact hp6.1) hp6.2⟩
    · rw [b2i_0] at h11_5
      refine v_aload_n (pc := 14) (i := 0) F dX9_place_14 rfl rfl ?_
      refine v_bipush (pc := 15) (v := (-2)) F dX9_place_15 (by decide) ?_
      refine v_callVI (pc := 17) (As := [_]) (rest := []) (c := 9) F mX9_refuse kX9_79 im_X9_refuse se_X9_refuse dX9_place_17 rfl rfl (by decide) (c_X9_refuse (-2) 2 (by decide) (by decide) (by decide) _) (by decide) rfl rfl (Nat.le_of_ble_eq_true rfl) lx0 (fun x7 μ7 hp7 => ?_)
      rw [hp7.1, hp7.2]
      refine v_ireturn (pc := 20) F dX9_place_20 (rfl) ?_
      simp only [s_place, rj, hnn, h4_2, ek_p, h11_5, ↓reduceIte]
      refine ⟨?_, ?_⟩ <;> first | exact trivial | exact rfl | exact hR | exact Rel.rj hM hR (by decide)

set_option maxRecDepth 100000 in
theorem c_X9_looker (k a g : Int32) (μ ν : j_M) (hM : MI ν) (hR : Rel μ ν) : Ct yX9_looker cX9_looker 4 (some .int) 3 ΛX [.ref 0, .int k, .int a, .int g] μ (pI fun r μ2 => r = (s_looker k a g ν).1 ∧ Rel μ2 (s_looker k a g ν).2) := by
  refine Ct.go (lo := [some (.ref 0), some (.int k), some (.int a), some (.int g)]) (by decide) (Nat.le_of_ble_eq_true rfl) rfl rfl (fun X F => ?_)
  have F : Fx X cX9_looker RX9 3 (some .int) ΛX := F
  obtain ⟨n, hW, hsh, htp, him⟩ := id hM
  have hn := hW.1
  have hn8 := hW.2.1
  have hnn := nn_eq hn hn8
  have ho := hW.own
  have hpw := j_pw hn8
  have hS : SQ μ 1 ν.1 n := ⟨by have := hR.sc; rwa [hnn] at this, hn8⟩
  by_cases hq_k : inQ 6 k = true
  · skip
    obtain ⟨k_k, hk_k, he_k⟩ := inR_of (by decide) hq_k
    subst he_k
    have ek_k : ix (nI k_k) = k_k := nI_clamp (by omega)
    refine v_iload_n (pc := 0) (i := 1) F dX9_looker_0 rfl rfl ?_
    refine v_if_lt (pc := 1) (tgt := 24) F dX9_looker_1 (by decide) (fun h1_1 => ?_) (fun h1_1 => ?_)
    · rw [j_lt0 (by omega)] at h1_1
      exact h1_1.elim
    · rw [j_lt0 (by omega)] at h1_1
      refine v_iload_n (pc := 4) (i := 1) F dX9_looker_4 rfl rfl ?_
      refine v_bipush (pc := 5) (v := nI 6) F dX9_looker_5 (by decide) ?_
      refine v_icmp_ge (pc := 7) (tgt := 24) F dX9_looker_7 (by decide) (fun h7_2 => ?_) (fun h7_2 => ?_)
      · rw [nI_leI (by omega) (by omega)] at h7_2
        omega
      · rw [nI_leI (by omega) (by omega)] at h7_2
        refine v_iload_n (pc := 10) (i := 2) F dX9_looker_10 rfl rfl ?_
        refine v_callSI (pc := 11) (As := [_]) (rest := []) F mX9_isSort kX9_168 sm_X9_isSort dX9_looker_11 (c_X9_isSort _ _) (by decide) rfl rfl (Nat.le_of_ble_eq_true rfl) (fun x3 μ3 hp3 => ?_)
        rw [hp3.1, hp3.2]
        refine v_if_eq (pc := 14) (tgt := 24) F dX9_looker_14 (by decide) (fun h14_4 => ?_) (fun h14_4 => ?_)
        · rw [b2i_0] at h14_4
          refine v_aload_n (pc := 24) (i := 0) F dX9_looker_24 rfl rfl ?_
          refine v_bipush (pc := 25) (v := (-2)) F dX9_looker_25 (by decide) ?_
          refine v_callVI (pc := 27) (As := [_]) (rest := []) (c := 9) F mX9_refuse kX9_79 im_X9_refuse se_X9_refuse dX9_looker_27 rfl rfl (by decide) (c_X9_refuse (-2) 2 (by decide) (by decide) (by decide) _) (by decide) rfl rfl (Nat.le_of_ble_eq_true rfl) lx0 (fun x5 μ5 hp5 => ?_)
          rw [hp5.1, hp5.2]
          refine v_ireturn (pc := 30) F dX9_looker_30 (rfl) ?_
          simp only [s_looker, rj, hnn, hq_k, ek_k, h1_1, h7_2, h14_4, ↓reduceIte]
          refine ⟨?_, ?_⟩ <;> first | exact trivial | exact rfl | exact hR | exact Rel.rj hM hR (by decide)
        · rw [b2i_0] at h14_4
          rw [Classical.not_not] at h14_4
          refine v_iload_n (pc := 17) (i := 3) F dX9_looker_17 rfl rfl ?_
          refine v_callSI (pc := 18) (As := [_]) (rest := []) F mX9_isAge kX9_171 sm_X9_isAge dX9_looker_18 (c_X9_isAge _ _) (by decide) rfl rfl (Nat.le_of_ble_eq_true rfl) (fun x6 μ6 hp6 => ?_)
          rw [hp6.1, hp6.2]
          refine v_if_ne (pc := 21) (tgt := 31) F dX9_looker_21 (by decide) (fun h21_7 => ?_) (fun h21_7 => ?_)
          · rw [b2i_0] at h21_7
            rw [Classical.not_not] at h21_7
            refine v_aload_n (pc := 31) (i := 0) F dX9_looker_31 rfl rfl ?_
            refine v_getR (pc := 32) (o := 1) F fX9_12 dX9_looker_32 rfl lx0 ?_
            refine v_topR (y := 1) rfl ?_
            refine v_callVI (pc := 35) (As := []) (rest := []) (c := 4) F mX4_isFull kX9_174 im_X4_isFull se_X4_isFull dX9_looker_35 rfl rfl (by decide) (c_X4_isFull 1 (lx9_0 lx0) n ν.1 _ (hS)) (by decide) rfl rfl (Nat.le_of_ble_eq_true rfl) (lx9_0 lx0) (fun x8 μ8 hp8 => ?_)
            rw [hp8.1, hp8.2]
            refine v_if_eq (pc := 38) (tgt := 48) F dX9_looker_38 (by decide) (fun h8 => ?_) (fun h8 => ?_)
            · rw [b2i_0] at h8
              refine v_aload_n (pc := 48) (i := 0) F dX9_looker_48 rfl rfl ?_
              refine v_getR (pc := 49) (o := 1) F fX9_12 dX9_looker_49 rfl lx0 ?_
              refine v_topR (y := 1) rfl ?_
              refine v_iload_n (pc := 52) (i := 1) F dX9_looker_52 rfl rfl ?_
              refine v_iload_n (pc := 53) (i := 2) F dX9_looker_53 rfl rfl ?_
              refine v_iload_n (pc := 54) (i := 3) F dX9_looker_54 rfl rfl ?_
              refine v_callVI (pc := 55) (As := [_, _, _]) (rest := []) (c := 4) F mX4_add kX9_177 im_X4_add se_X4_add dX9_looker_55 rfl rfl (by decide) (c_X4_add 1 (lx9_0 lx0) n ν.1 _ hS (by omega) _ _ _) (by decide) rfl rfl (Nat.le_of_ble_eq_true rfl) (lx9_0 lx0) (fun x10 μ10 hp10 => ?_)
              rw [hp10.1]
              refine v_ireturn (pc := 58) F dX9_looker_58 (rfl) ?_
              simp only [s_looker, rj, hnn, hq_k, ek_k, h1_1, h7_2, h14_4, h21_7, h8, ↓reduceIte]
              exact ⟨(by first | exact trivial | exact rfl), (by have := hR.nl hM (by rw [hnn]; exact hp10.2.1) hp10.2.2; rwa [hnn] at this)⟩
            · rw [b2i_0] at h8
              rw [Classical.not_not] at h8
              refine v_aload_n (pc := 41) (i := 0) F dX9_looker_41 rfl rfl ?_
              refine v_bipush (pc := 42) (v := (-6)) F dX9_looker_42 (by decide) ?_
              refine v_callVI (pc := 44) (As := [_]) (rest := []) (c := 9) F mX9_refuse kX9_79 im_X9_refuse se_X9_refuse dX9_looker_44 rfl rfl (by decide) (c_X9_refuse (-6) 6 (by decide) (by decide) (by decide) _) (by decide) rfl rfl (Nat.le_of_ble_eq_true rfl) lx0 (fun x11 μ11 hp11 => ?_)
              rw [hp11.1, hp11.2]
              refine v_ireturn (pc := 47) F dX9_looker_47 (rfl) ?_
              simp only [s_looker, rj, hnn, hq_k, ek_k, h1_1, h7_2, h14_4, h21_7, h8, ↓reduceIte]
              refine ⟨?_, ?_⟩ <;> first | exact trivial | exact rfl | exact hR | exact Rel.rj hM hR (by decide)
          · rw [b2i_0] at h21_7
            refine v_aload_n (pc := 24) (i := 0) F dX9_looker_24 rfl rfl ?_
            refine v_bipush (pc := 25) (v := (-2)) F dX9_looker_25 (by decide) ?_
            refine v_callVI (pc := 27) (As := [_]) (rest := []) (c := 9) F mX9_refuse kX9_79 im_X9_refuse se_X9_refuse dX9_looker_27 rfl rfl (by decide) (c_X9_refuse (-2) 2 (by decide) (by decide) (by decide) _) (by decide) rfl rfl (Nat.le_of_ble_eq_true rfl) lx0 (fun x12 μ12 hp12 => ?_)
            rw [hp12.1, hp12.2]
            refine v_ireturn (pc := 30) F dX9_looker_30 (rfl) ?_
            simp only [s_looker, rj, hnn, hq_k, ek_k, h1_1, h7_2, h14_4, h21_7, ↓reduceIte]
            refine ⟨?_, ?_⟩ <;> first | exact trivial | exact rfl | exact hR | exact Rel.rj hM hR (by decide)
  · skip
    refine v_iload_n (pc := 0) (i := 1) F dX9_looker_0 rfl rfl ?_
    refine v_if_lt (pc := 1) (tgt := 24) F dX9_looker_1 (by decide) (fun hneg_k => ?_) (fun hneg_k => ?_)
    · skip
      refine v_aload_n (pc := 24) (i := 0) F dX9_looker_24 rfl rfl ?_
      refine v_bipush (pc := 25) (v := (-2)) F dX9_looker_25 (by decide) ?_
      refine v_callVI (pc := 27) (As := [_]) (rest := []) (c := 9) F mX9_refuse kX9_79 im_X9_refuse se_X9_refuse dX9_looker_27 rfl rfl (by decide) (c_X9_refuse (-2) 2 (by decide) (by decide) (by decide) _) (by decide) rfl rfl (Nat.le_of_ble_eq_true rfl) lx0 (fun x14 μ14 hp14 => ?_)
      rw [hp14.1, hp14.2]
      refine v_ireturn (pc := 30) F dX9_looker_30 (rfl) ?_
      simp only [s_looker, rj, hnn, hq_k, hneg_k, ↓reduceIte]
      refine ⟨?_, ?_⟩ <;> first | exact trivial | exact rfl | exact hR | exact Rel.rj hM hR (by decide)
    · skip
      refine v_iload_n (pc := 4) (i := 1) F dX9_looker_4 rfl rfl ?_
      refine v_bipush (pc := 5) (v := nI 6) F dX9_looker_5 (by decide) ?_
      refine v_icmp_ge (pc := 7) (tgt := 24) F dX9_looker_7 (by decide) (fun h7_15 => ?_) (fun h7_15 => ?_)
      · skip
        refine v_aload_n (pc := 24) (i := 0) F dX9_looker_24 rfl rfl ?_
        refine v_bipush (pc := 25) (v := (-2)) F dX9_looker_25 (by decide) ?_
        refine v_callVI (pc := 27) (As := [_]) (rest := []) (c := 9) F mX9_refuse kX9_79 im_X9_refuse se_X9_refuse dX9_looker_27 rfl rfl (by decide) (c_X9_refuse (-2) 2 (by decide) (by decide) (by decide) _) (by decide) rfl rfl (Nat.le_of_ble_eq_true rfl) lx0 (fun x16 μ16 hp16 => ?_)
        rw [hp16.1, hp16.2]
        refine v_ireturn (pc := 30) F dX9_looker_30 (rfl) ?_
        simp only [s_looker, rj, hnn, hq_k, hneg_k, h7_15, ↓reduceIte]
        refine ⟨?_, ?_⟩ <;> first | exact trivial | exact rfl | exact hR | exact Rel.rj hM hR (by decide)
      · skip
        exact (inQ_no hq_k hneg_k (Int32.not_le.mp h7_15)).elim
