/-! the class: evenings asked for -/
theorem jbc_k {P : Nat → Bool} {n : Nat} (hn : n ≤ 8) : jbc (bK P n) = nI (cK P n) := by
  have e : bK P n = bK (fun p => decide (p < n) && P p) 12 := tb_ext (fun i hi => by
    rw [tb_bK (by omega), tb_bK12]
    by_cases q : i < n
    · rw [decide_eq_true q, decide_eq_true (show i < 12 by omega)]; rfl
    · rw [decide_eq_false q]; simp)
  rw [e, jbc_bK]
  congr 1
  show cK _ 12 = _
  rw [cK_top (P := fun p => decide (p < n) && P p) (n := n) (m := 12) (by omega) (fun i h1 h2 => by rw [decide_eq_false (by omega)]; rfl)]
  exact cK_congr (fun p hp => by rw [decide_eq_true hp, Bool.true_and])
theorem AK_in {w : Nat → Nat → Int32} {n : Nat} {set : Int32} {k x : Nat} (hk : k < n) (hx : (OA w n).getD k 0 = x) (h : tb set x = true) : AK w n set (k + 1) = AK w n set k ++ [x] := by
  unfold AK
  rw [take_s hk hx, List.filter_append, List.filter_cons_of_pos h]; rfl
theorem AK_out {w : Nat → Nat → Int32} {n : Nat} {set : Int32} {k x : Nat} (hk : k < n) (hx : (OA w n).getD k 0 = x) (h : ¬ tb set x = true) : AK w n set (k + 1) = AK w n set k := by
  unfold AK
  rw [take_s hk hx, List.filter_append, List.filter_cons_of_neg h]; simp
theorem AK_n {w : Nat → Nat → Int32} {n : Nat} {set : Int32} : AK w n set n = OO w n set := by
  rw [OO_fl]
  show ((OA w n).take n).filter _ = _
  rw [List.take_of_length_le (by rw [OA_len]; exact Nat.le_refl _)]
theorem AK_le {w : Nat → Nat → Int32} {n : Nat} {set : Int32} {k : Nat} (hk : k ≤ n) : (AK w n set k).length ≤ k := by
  refine Nat.le_trans (List.length_filter_le _ _) ?_
  rw [List.length_take]; omega
theorem AK_pre {w : Nat → Nat → Int32} {n : Nat} {set : Int32} {k x : Nat} (hk : k < n) (hx : (OA w n).getD k 0 = x) (h : tb set x = true) : (AK w n set k).length < (OO w n set).length ∧ (OO w n set).getD (AK w n set k).length 0 = x := by
  have e : OO w n set = AK w n set (k + 1) ++ ((OA w n).drop (k + 1)).filter (tb set) := by
    rw [OO_fl]
    unfold AK
    rw [← List.filter_append, List.take_append_drop]
  rw [e, AK_in hk hx h, List.append_assoc]
  refine ⟨by simp, ?_⟩
  rw [List.getD_eq_getElem?_getD, List.getElem?_append_right (Nat.le_refl _), Nat.sub_self]
  rfl
def ioI (w : Nat → Nat → Int32) (n : Nat) (set i : Int32) : Int32 := if inQ (OO w n set).length i = true then nI ((OO w n set).getD (ix i) 0) else -1

set_option maxRecDepth 100000 in
theorem c_X4_inOrder (b : Nat) (hb : j_ob ΛX b 4) (n : Nat) (w : Nat → Nat → Int32) (μ : j_M) (hS : SQ μ b w n) (set i : Int32) : Ct yX4_inOrder cX4_inOrder 6 (some .int) 0 ΛX [.ref b, .int set, .int i] μ (pI fun r μ2 => r = (ioI w n set i) ∧ μ2 = μ) := by
  refine Ct.go (lo := [some (.ref b), some (.int set), some (.int i), none, none, none]) (by decide) (Nat.le_of_ble_eq_true rfl) rfl rfl (fun X F => ?_)
  have F : Fx X cX4_inOrder RX4 0 (some .int) ΛX := F
  have hn8 := hS.2
  refine v_iconst (pc := 0) (v := nI 0) F dX4_inOrder_0 (by decide) ?_
  refine v_istore_n (pc := 1) (lo' := [some (.ref _), some (.int _), some (.int _), some (.int _), _, _]) F dX4_inOrder_1 rfl rfl (Nat.le_of_ble_eq_true rfl) rfl ?_
  refine v_iconst (pc := 2) (v := nI 0) F dX4_inOrder_2 (by decide) ?_
  refine v_istore (pc := 3) (lo' := [some (.ref _), some (.int _), some (.int _), some (.int _), some (.int _), _]) F dX4_inOrder_3 rfl (Nat.le_of_ble_eq_true rfl) rfl ?_
  refine j_up n (fun k => (∀ j, j < (AK w n set k).length → ¬ nI j = i) → V X _ 5 [some (.ref b), some (.int set), some (.int i), some (.int (nI ((AK w n set k).length))), some (.int (nI k)), none] [] μ) (fun k hk ih hI => ?_) 0 (Nat.zero_le _) (fun j hj => absurd hj (Nat.not_lt_zero _))
  refine v_iload (pc := 5) (i := 4) F dX4_inOrder_5 rfl ?_
  refine v_aload_n (pc := 7) (i := 0) F dX4_inOrder_7 rfl rfl ?_
  refine v_getI (pc := 8) F fX4_44 dX4_inOrder_8 rfl hb ?_
  refine v_topE (y := nI n) (hS.1.cnt) ?_
  refine v_icmp_ge (pc := 11) (tgt := 49) F dX4_inOrder_11 (by decide) (fun h11_1 => ?_) (fun h11_1 => ?_)
  · rw [nI_leI (by omega) (by omega)] at h11_1
    refine v_iconst (pc := 49) (v := (-1)) F dX4_inOrder_49 (by decide) ?_
    refine v_ireturn (pc := 50) F dX4_inOrder_50 (rfl) ?_
    have e1 : k = n := by omega
    subst e1
    rw [AK_n] at hI
    refine ⟨?_, rfl⟩
    unfold ioI
    rw [if_neg (fun z => ?_)]
    have hl : (OO w k set).length ≤ k := by rw [← AK_n]; exact AK_le (Nat.le_refl _)
    obtain ⟨j, h1, h2⟩ := (inR_iff (by omega)).mp z
    exact hI j h1 h2.symm
  · rw [nI_leI (by omega) (by omega)] at h11_1
    refine v_aload_n (pc := 14) (i := 0) F dX4_inOrder_14 rfl rfl ?_
    refine v_getR (pc := 15) (o := 4) F fX4_24 dX4_inOrder_15 rfl hb ?_
    refine v_topR (y := b + 4) rfl ?_
    refine v_iload (pc := 18) (i := 4) F dX4_inOrder_18 rfl ?_
    obtain ⟨x, hx⟩ : ∃ x, (OA w n).getD k 0 = x := ⟨_, rfl⟩
    have hxn : x < n := by rw [← hx]; exact OA_lt (by omega)
    have hal := AK_le (w := w) (n := n) (set := set) hk
    refine v_ialdN (pc := 20) (k0 := k) F dX4_inOrder_20 (lx4_3 hb) (rfl) (by omega) (by decide) ?_
    refine v_topE (y := nI x) ((hS.1.ord k (by omega)).trans (by rw [hx])) ?_
    refine v_istore (pc := 21) (lo' := [some (.ref _), some (.int _), some (.int _), some (.int _), some (.int _), some (.int _)]) F dX4_inOrder_21 rfl (Nat.le_of_ble_eq_true rfl) rfl ?_
    refine v_iload_n (pc := 23) (i := 1) F dX4_inOrder_23 rfl rfl ?_
    refine v_iload (pc := 24) (i := 5) F dX4_inOrder_24 rfl ?_
    refine v_ishr (pc := 26) F dX4_inOrder_26 ?_
    refine v_iconst (pc := 27) (v := nI 1) F dX4_inOrder_27 (by decide) ?_
    refine v_iand (pc := 28) F dX4_inOrder_28 ?_
    refine v_if_eq (pc := 29) (tgt := 43) F dX4_inOrder_29 (by decide) (fun hin => ?_) (fun hin => ?_)
    · rw [tb_if (by omega)] at hin
      refine v_iinc (pc := 43) (i := 4) (v := nI (k + 1)) (lo' := [some (.ref _), some (.int _), some (.int _), some (.int _), some (.int _), some (.int _)]) F dX4_inOrder_43 rfl (j_inc _) rfl rfl ?_
      refine v_goto (pc := 46) (tgt := 5) F dX4_inOrder_46 (by decide) ?_
      refine v_drop (i := 5) (lo' := [some (.ref _), some (.int _), some (.int _), some (.int _), some (.int _), _]) rfl ?_
      have e1 := AK_out (by omega) hx hin
      have q := ih (by omega)
      rw [e1] at q
      exact q hI
    · rw [tb_if (by omega)] at hin
      rw [Classical.not_not] at hin
      refine v_iload_n (pc := 32) (i := 3) F dX4_inOrder_32 rfl rfl ?_
      refine v_iload_n (pc := 33) (i := 2) F dX4_inOrder_33 rfl rfl ?_
      refine v_icmp_ne (pc := 34) (tgt := 40) F dX4_inOrder_34 (by decide) (fun hne => ?_) (fun hne => ?_)
      · skip
        refine v_iinc (pc := 40) (i := 3) (v := nI ((AK w n set k).length + 1)) (lo' := [some (.ref _), some (.int _), some (.int _), some (.int _), some (.int _), some (.int _)]) F dX4_inOrder_40 rfl (j_inc _) rfl rfl ?_
        refine v_iinc (pc := 43) (i := 4) (v := nI (k + 1)) (lo' := [some (.ref _), some (.int _), some (.int _), some (.int _), some (.int _), some (.int _)]) F dX4_inOrder_43 rfl (j_inc _) rfl rfl ?_
        refine v_goto (pc := 46) (tgt := 5) F dX4_inOrder_46 (by decide) ?_
        refine v_drop (i := 5) (lo' := [some (.ref _), some (.int _), some (.int _), some (.int _), some (.int _), _]) rfl ?_
        have e1 := AK_in (by omega) hx hin
        have q := ih (by omega)
        rw [e1, List.length_append] at q
        refine q (fun j hj => ?_)
        rcases Nat.lt_succ_iff_lt_or_eq.mp (show j < (AK w n set k).length + 1 from hj) with z | z
        · exact hI j z
        · rw [z]; exact hne
      · skip
        refine v_iload (pc := 37) (i := 5) F dX4_inOrder_37 rfl ?_
        refine v_ireturn (pc := 39) F dX4_inOrder_39 (rfl) ?_
        obtain ⟨p1, p2⟩ := AK_pre (by omega) hx hin
        refine ⟨?_, rfl⟩
        unfold ioI
        have hl : (OO w n set).length ≤ n := by rw [← AK_n]; exact AK_le (Nat.le_refl _)
        rw [← hne, if_pos ((inR_iff (by omega)).mpr ⟨_, p1, rfl⟩), ix_nI (by omega), p2]

def unK (w : Nat → Nat → Int32) (th : Int32) : Nat → Nat := cK (fun s => !(pwB w s &&& th == 0))

set_option maxRecDepth 100000 in
theorem c_X4_countUnlike (b : Nat) (hb : j_ob ΛX b 4) (n : Nat) (w : Nat → Nat → Int32) (μ : j_M) (hS : SQ μ b w n) (th : Int32) : Ct yX4_countUnlike cX4_countUnlike 4 (some .int) 0 ΛX [.ref b, .int th] μ (pI fun r μ2 => r = (nI (unK w th 8)) ∧ μ2 = μ) := by
  refine Ct.go (lo := [some (.ref b), some (.int th), none, none]) (by decide) (Nat.le_of_ble_eq_true rfl) rfl rfl (fun X F => ?_)
  have F : Fx X cX4_countUnlike RX4 0 (some .int) ΛX := F
  refine v_iconst (pc := 0) (v := nI 0) F dX4_countUnlike_0 (by decide) ?_
  refine v_istore_n (pc := 1) (lo' := [some (.ref _), some (.int _), some (.int _), _]) F dX4_countUnlike_1 rfl rfl (Nat.le_of_ble_eq_true rfl) rfl ?_
  refine v_iconst (pc := 2) (v := nI 0) F dX4_countUnlike_2 (by decide) ?_
  refine v_istore_n (pc := 3) (lo' := [some (.ref _), some (.int _), some (.int _), some (.int _)]) F dX4_countUnlike_3 rfl rfl (Nat.le_of_ble_eq_true rfl) rfl ?_
  refine j_up 8 (fun k => V X _ 4 [some (.ref b), some (.int th), some (.int (nI (unK w th k))), some (.int (nI k))] [] μ) (fun k hk ih => ?_) 0 (Nat.zero_le _)
  refine v_iload_n (pc := 4) (i := 3) F dX4_countUnlike_4 rfl rfl ?_
  refine v_bipush (pc := 5) (v := nI 8) F dX4_countUnlike_5 (by decide) ?_
  refine v_icmp_ge (pc := 7) (tgt := 30) F dX4_countUnlike_7 (by decide) (fun h7_1 => ?_) (fun h7_1 => ?_)
  · rw [nI_leI (by omega) (by omega)] at h7_1
    refine v_iload_n (pc := 30) (i := 2) F dX4_countUnlike_30 rfl rfl ?_
    refine v_ireturn (pc := 31) F dX4_countUnlike_31 (rfl) ?_
    have e : k = 8 := by omega
    subst e
    exact ⟨rfl, rfl⟩
  · rw [nI_leI (by omega) (by omega)] at h7_1
    refine v_aload_n (pc := 10) (i := 0) F dX4_countUnlike_10 rfl rfl ?_
    refine v_getR (pc := 11) (o := 2) F fX4_15 dX4_countUnlike_11 rfl hb ?_
    refine v_topR (y := b + 2) rfl ?_
    refine v_iload_n (pc := 14) (i := 3) F dX4_countUnlike_14 rfl rfl ?_
    refine v_ialdN (pc := 15) (k0 := k) F dX4_countUnlike_15 (lx4_1 hb) (rfl) (by omega) (by decide) ?_
    refine v_topE (y := (pwB w k)) (hS.1.plw k (by omega)) ?_
    refine v_iload_n (pc := 16) (i := 1) F dX4_countUnlike_16 rfl rfl ?_
    refine v_iand (pc := 17) F dX4_countUnlike_17 ?_
    refine v_if_eq (pc := 18) (tgt := 24) F dX4_countUnlike_18 (by decide) (fun hc => ?_) (fun hc => ?_)
    · skip
      refine v_iinc (pc := 24) (i := 3) (v := nI (k + 1)) (lo' := [some (.ref _), some (.int _), some (.int _), some (.int _)]) F dX4_countUnlike_24 rfl (j_inc _) rfl rfl ?_
      refine v_goto (pc := 27) (tgt := 4) F dX4_countUnlike_27 (by decide) ?_
      have q := ih (by omega)
      unfold unK at q ⊢
      first | (rw [cK_t (k := k) (by simpa using hc)] at q; exact q) | (rw [cK_f (k := k) (by simpa using hc)] at q; exact q)
    · skip
      refine v_iinc (pc := 21) (i := 2) (v := nI (unK w th k + 1)) (lo' := [some (.ref _), some (.int _), some (.int _), some (.int _)]) F dX4_countUnlike_21 rfl (j_inc _) rfl rfl ?_
      refine v_iinc (pc := 24) (i := 3) (v := nI (k + 1)) (lo' := [some (.ref _), some (.int _), some (.int _), some (.int _)]) F dX4_countUnlike_24 rfl (j_inc _) rfl rfl ?_
      refine v_goto (pc := 27) (tgt := 4) F dX4_countUnlike_27 (by decide) ?_
      have q := ih (by omega)
      unfold unK at q ⊢
      first | (rw [cK_t (k := k) (by simpa using hc)] at q; exact q) | (rw [cK_f (k := k) (by simpa using hc)] at q; exact q)

set_option maxRecDepth 100000 in
theorem c_X9_left (set : Int32) (μ ν : j_M) (hM : MI ν) (hR : Rel μ ν) : Ct yX9_left cX9_left 2 (some .int) 5 ΛX [.ref 0, .int set] μ (pI fun r μ2 => r = (s_left set ν).1 ∧ Rel μ2 (s_left set ν).2) := by
  refine Ct.go (lo := [some (.ref 0), some (.int set)]) (by decide) (Nat.le_of_ble_eq_true rfl) rfl rfl (fun X F => ?_)
  have F : Fx X cX9_left RX9 5 (some .int) ΛX := F
  obtain ⟨n, hW, hsh, htp, him⟩ := id hM
  have hn := hW.1
  have hn8 := hW.2.1
  have hnn := nn_eq hn hn8
  have ho := hW.own
  have hpw := j_pw hn8
  have hS : SQ μ 1 ν.1 n := ⟨by have := hR.sc; rwa [hnn] at this, hn8⟩
  refine v_aload_n (pc := 0) (i := 0) F dX9_left_0 rfl rfl ?_
  refine v_iload_n (pc := 1) (i := 1) F dX9_left_1 rfl rfl ?_
  refine v_callVI (pc := 2) (As := [_]) (rest := []) (c := 9) F mX9_isSet kX9_257 im_X9_isSet se_X9_isSet dX9_left_2 rfl rfl (by decide) (c_X9_isSet _ n ν.1 _ (hS)) (by decide) rfl rfl (Nat.le_of_ble_eq_true rfl) lx0 (fun x1 μ1 hp1 => ?_)
  rw [hp1.1, hp1.2]
  refine v_if_ne (pc := 5) (tgt := 15) F dX9_left_5 (by decide) (fun h5_2 => ?_) (fun h5_2 => ?_)
  · rw [b2i_0] at h5_2
    rw [Classical.not_not] at h5_2
    obtain ⟨k_set, hk_set, he_set⟩ := inR_of (by omega) h5_2
    subst he_set
    have ek_set : ix (nI k_set) = k_set := nI_clamp (by omega)
    refine v_aload_n (pc := 15) (i := 0) F dX9_left_15 rfl rfl ?_
    refine v_getR (pc := 16) (o := 64) F fX9_25 dX9_left_16 rfl lx0 ?_
    refine v_topR (y := 64) rfl ?_
    refine v_aload_n (pc := 19) (i := 0) F dX9_left_19 rfl rfl ?_
    refine v_getR (pc := 20) (o := 1) F fX9_12 dX9_left_20 rfl lx0 ?_
    refine v_topR (y := 1) rfl ?_
    refine v_iload_n (pc := 23) (i := 1) F dX9_left_23 rfl rfl ?_
    refine v_aload_n (pc := 24) (i := 0) F dX9_left_24 rfl rfl ?_
    refine v_getR (pc := 25) (o := 1) F fX9_12 dX9_left_25 rfl lx0 ?_
    refine v_topR (y := 1) rfl ?_
    refine v_getI (pc := 28) F fX9_150 dX9_left_28 rfl (lx9_0 lx0) ?_
    refine v_topE (y := (lfB (ν.1 1))) (hS.1.fil) ?_
    refine v_callVV (pc := 31) (As := [_, _, _]) (rest := []) (c := 2) F mX2_run kX9_260 im_X2_run se_X2_run dX9_left_31 rfl rfl (by decide) (c_X2_run 64 (lx9_4 lx0) 1 (lx9_0 lx0) n ν.1 _ (hS) hW (nI k_set) (ν.1 1) UU.self (by omega)) (by decide) rfl rfl (Nat.le_of_ble_eq_true rfl) (lx9_4 lx0) (fun μ3 hp3 => ?_)
    skip
    refine v_aload_n (pc := 34) (i := 0) F dX9_left_34 rfl rfl ?_
    refine v_getR (pc := 35) (o := 64) F fX9_25 dX9_left_35 rfl lx0 ?_
    refine v_topR (y := 64) rfl ?_
    refine v_getI (pc := 38) F fX9_264 dX9_left_38 rfl (lx9_4 lx0) ?_
    refine v_topE (y := (lfB (uE ν.1 n (nI k_set)))) (hp3.2.1) ?_
    refine v_ireturn (pc := 41) F dX9_left_41 (rfl) ?_
    simp only [s_left, rj, hnn, h5_2, ek_set, ↓reduceIte]
    refine ⟨?_, ?_⟩ <;> first | exact trivial | exact rfl | exact (hR.X hM hp3.1 (fun c j z => by omega)) | exact Rel.rj hM hR (by decide)
  · rw [b2i_0] at h5_2
    refine v_aload_n (pc := 8) (i := 0) F dX9_left_8 rfl rfl ?_
    refine v_bipush (pc := 9) (v := (-2)) F dX9_left_9 (by decide) ?_
    refine v_callVI (pc := 11) (As := [_]) (rest := []) (c := 9) F mX9_refuse kX9_79 im_X9_refuse se_X9_refuse dX9_left_11 rfl rfl (by decide) (c_X9_refuse (-2) 2 (by decide) (by decide) (by decide) _) (by decide) rfl rfl (Nat.le_of_ble_eq_true rfl) lx0 (fun x4 μ4 hp4 => ?_)
    rw [hp4.1, hp4.2]
    refine v_ireturn (pc := 14) F dX9_left_14 (rfl) ?_
    simp only [s_left, rj, hnn, h5_2, ↓reduceIte]
    refine ⟨?_, ?_⟩ <;> first | exact trivial | exact rfl | exact hR | exact Rel.rj hM hR (by decide)

set_option maxRecDepth 100000 in
theorem c_X9_taken (set l : Int32) (μ ν : j_M) (hM : MI ν) (hR : Rel μ ν) : Ct yX9_taken cX9_taken 3 (some .int) 5 ΛX [.ref 0, .int set, .int l] μ (pI fun r μ2 => r = (s_taken set l ν).1 ∧ Rel μ2 (s_taken set l ν).2) := by
  refine Ct.go (lo := [some (.ref 0), some (.int set), some (.int l)]) (by decide) (Nat.le_of_ble_eq_true rfl) rfl rfl (fun X F => ?_)
  have F : Fx X cX9_taken RX9 5 (some .int) ΛX := F
  obtain ⟨n, hW, hsh, htp, him⟩ := id hM
  have hn := hW.1
  have hn8 := hW.2.1
  have hnn := nn_eq hn hn8
  have ho := hW.own
  have hpw := j_pw hn8
  have hS : SQ μ 1 ν.1 n := ⟨by have := hR.sc; rwa [hnn] at this, hn8⟩
  refine v_aload_n (pc := 0) (i := 0) F dX9_taken_0 rfl rfl ?_
  refine v_iload_n (pc := 1) (i := 1) F dX9_taken_1 rfl rfl ?_
  refine v_callVI (pc := 2) (As := [_]) (rest := []) (c := 9) F mX9_isSet kX9_257 im_X9_isSet se_X9_isSet dX9_taken_2 rfl rfl (by decide) (c_X9_isSet _ n ν.1 _ (hS)) (by decide) rfl rfl (Nat.le_of_ble_eq_true rfl) lx0 (fun x1 μ1 hp1 => ?_)
  rw [hp1.1, hp1.2]
  refine v_if_eq (pc := 5) (tgt := 16) F dX9_taken_5 (by decide) (fun h5_2 => ?_) (fun h5_2 => ?_)
  · rw [b2i_0] at h5_2
    refine v_aload_n (pc := 16) (i := 0) F dX9_taken_16 rfl rfl ?_
    refine v_bipush (pc := 17) (v := (-2)) F dX9_taken_17 (by decide) ?_
    refine v_callVI (pc := 19) (As := [_]) (rest := []) (c := 9) F mX9_refuse kX9_79 im_X9_refuse se_X9_refuse dX9_taken_19 rfl rfl (by decide) (c_X9_refuse (-2) 2 (by decide) (by decide) (by decide) _) (by decide) rfl rfl (Nat.le_of_ble_eq_true rfl) lx0 (fun x3 μ3 hp3 => ?_)
    rw [hp3.1, hp3.2]
    refine v_ireturn (pc := 22) F dX9_taken_22 (rfl) ?_
    simp only [s_taken, rj, hnn, h5_2, ↓reduceIte]
    refine ⟨?_, ?_⟩ <;> first | exact trivial | exact rfl | exact hR | exact Rel.rj hM hR (by decide)
  · rw [b2i_0] at h5_2
    rw [Classical.not_not] at h5_2
    obtain ⟨k_set, hk_set, he_set⟩ := inR_of (by omega) h5_2
    subst he_set
    have ek_set : ix (nI k_set) = k_set := nI_clamp (by omega)
    refine v_aload_n (pc := 8) (i := 0) F dX9_taken_8 rfl rfl ?_
    refine v_iload_n (pc := 9) (i := 2) F dX9_taken_9 rfl rfl ?_
    refine v_callVI (pc := 10) (As := [_]) (rest := []) (c := 9) F mX9_isLooker kX9_126 im_X9_isLooker se_X9_isLooker dX9_taken_10 rfl rfl (by decide) (c_X9_isLooker _ n ν.1 _ (hS)) (by decide) rfl rfl (Nat.le_of_ble_eq_true rfl) lx0 (fun x4 μ4 hp4 => ?_)
    rw [hp4.1, hp4.2]
    refine v_if_ne (pc := 13) (tgt := 23) F dX9_taken_13 (by decide) (fun h13_5 => ?_) (fun h13_5 => ?_)
    · rw [b2i_0] at h13_5
      rw [Classical.not_not] at h13_5
      obtain ⟨k_l, hk_l, he_l⟩ := inR_of (by omega) h13_5
      subst he_l
      have ek_l : ix (nI k_l) = k_l := nI_clamp (by omega)
      refine v_aload_n (pc := 23) (i := 0) F dX9_taken_23 rfl rfl ?_
      refine v_getR (pc := 24) (o := 64) F fX9_25 dX9_taken_24 rfl lx0 ?_
      refine v_topR (y := 64) rfl ?_
      refine v_aload_n (pc := 27) (i := 0) F dX9_taken_27 rfl rfl ?_
      refine v_getR (pc := 28) (o := 1) F fX9_12 dX9_taken_28 rfl lx0 ?_
      refine v_topR (y := 1) rfl ?_
      refine v_iload_n (pc := 31) (i := 1) F dX9_taken_31 rfl rfl ?_
      refine v_aload_n (pc := 32) (i := 0) F dX9_taken_32 rfl rfl ?_
      refine v_getR (pc := 33) (o := 1) F fX9_12 dX9_taken_33 rfl lx0 ?_
      refine v_topR (y := 1) rfl ?_
      refine v_getI (pc := 36) F fX9_150 dX9_taken_36 rfl (lx9_0 lx0) ?_
      refine v_topE (y := (lfB (ν.1 1))) (hS.1.fil) ?_
      refine v_callVV (pc := 39) (As := [_, _, _]) (rest := []) (c := 2) F mX2_run kX9_260 im_X2_run se_X2_run dX9_taken_39 rfl rfl (by decide) (c_X2_run 64 (lx9_4 lx0) 1 (lx9_0 lx0) n ν.1 _ (hS) hW (nI k_set) (ν.1 1) UU.self (by omega)) (by decide) rfl rfl (Nat.le_of_ble_eq_true rfl) (lx9_4 lx0) (fun μ6 hp6 => ?_)
      skip
      refine v_aload_n (pc := 42) (i := 0) F dX9_taken_42 rfl rfl ?_
      refine v_getR (pc := 43) (o := 64) F fX9_25 dX9_taken_43 rfl lx0 ?_
      refine v_topR (y := 64) rfl ?_
      refine v_getR (pc := 46) (o := 1) F fX9_267 dX9_taken_46 rfl (lx9_4 lx0) ?_
      refine v_topR (y := 65) rfl ?_
      refine v_iload_n (pc := 49) (i := 2) F dX9_taken_49 rfl rfl ?_
      refine v_ialdN (pc := 50) (k0 := k_l) F dX9_taken_50 (lx2_0 (lx9_4 lx0)) (rfl) (by omega) (by decide) ?_
      refine v_topE (y := (bl (tE ν.1 n (nI k_set) k_l))) (hp6.2.2.1 k_l (by omega)) ?_
      refine v_ireturn (pc := 51) F dX9_taken_51 (rfl) ?_
      simp only [s_taken, rj, hnn, h5_2, ek_set, h13_5, ek_l, ↓reduceIte]
      refine ⟨?_, ?_⟩ <;> first | exact trivial | exact rfl | exact (hR.X hM hp6.1 (fun c j z => by omega)) | exact Rel.rj hM hR (by decide)
    · rw [b2i_0] at h13_5
      refine v_aload_n (pc := 16) (i := 0) F dX9_taken_16 rfl rfl ?_
      refine v_bipush (pc := 17) (v := (-2)) F dX9_taken_17 (by decide) ?_
      refine v_callVI (pc := 19) (As := [_]) (rest := []) (c := 9) F mX9_refuse kX9_79 im_X9_refuse se_X9_refuse dX9_taken_19 rfl rfl (by decide) (c_X9_refuse (-2) 2 (by decide) (by decide) (by decide) _) (by decide) rfl rfl (Nat.le_of_ble_eq_true rfl) lx0 (fun x7 μ7 hp7 => ?_)
      rw [hp7.1, hp7.2]
      refine v_ireturn (pc := 22) F dX9_taken_22 (rfl) ?_
      simp only [s_taken, rj, hnn, h5_2, ek_set, h13_5, ↓reduceIte]
      refine ⟨?_, ?_⟩ <;> first | exact trivial | exact rfl | exact hR | exact Rel.rj hM hR (by decide)

set_option maxRecDepth 100000 in
theorem c_X9_gladOnes (set : Int32) (μ ν : j_M) (hM : MI ν) (hR : Rel μ ν) : Ct yX9_gladOnes cX9_gladOnes 2 (some .int) 5 ΛX [.ref 0, .int set] μ (pI fun r μ2 => r = (s_gladOnes set ν).1 ∧ Rel μ2 (s_gladOnes set ν).2) := by
  refine Ct.go (lo := [some (.ref 0), some (.int set)]) (by decide) (Nat.le_of_ble_eq_true rfl) rfl rfl (fun X F => ?_)
  have F : Fx X cX9_gladOnes RX9 5 (some .int) ΛX := F
  obtain ⟨n, hW, hsh, htp, him⟩ := id hM
  have hn := hW.1
  have hn8 := hW.2.1
  have hnn := nn_eq hn hn8
  have ho := hW.own
  have hpw := j_pw hn8
  have hS : SQ μ 1 ν.1 n := ⟨by have := hR.sc; rwa [hnn] at this, hn8⟩
  refine v_aload_n (pc := 0) (i := 0) F dX9_gladOnes_0 rfl rfl ?_
  refine v_iload_n (pc := 1) (i := 1) F dX9_gladOnes_1 rfl rfl ?_
  refine v_callVI (pc := 2) (As := [_]) (rest := []) (c := 9) F mX9_isSet kX9_257 im_X9_isSet se_X9_isSet dX9_gladOnes_2 rfl rfl (by decide) (c_X9_isSet _ n ν.1 _ (hS)) (by decide) rfl rfl (Nat.le_of_ble_eq_true rfl) lx0 (fun x1 μ1 hp1 => ?_)
  rw [hp1.1, hp1.2]
  refine v_if_ne (pc := 5) (tgt := 15) F dX9_gladOnes_5 (by decide) (fun h5_2 => ?_) (fun h5_2 => ?_)
  · rw [b2i_0] at h5_2
    rw [Classical.not_not] at h5_2
    obtain ⟨k_set, hk_set, he_set⟩ := inR_of (by omega) h5_2
    subst he_set
    have ek_set : ix (nI k_set) = k_set := nI_clamp (by omega)
    refine v_aload_n (pc := 15) (i := 0) F dX9_gladOnes_15 rfl rfl ?_
    refine v_getR (pc := 16) (o := 64) F fX9_25 dX9_gladOnes_16 rfl lx0 ?_
    refine v_topR (y := 64) rfl ?_
    refine v_aload_n (pc := 19) (i := 0) F dX9_gladOnes_19 rfl rfl ?_
    refine v_getR (pc := 20) (o := 1) F fX9_12 dX9_gladOnes_20 rfl lx0 ?_
    refine v_topR (y := 1) rfl ?_
    refine v_iload_n (pc := 23) (i := 1) F dX9_gladOnes_23 rfl rfl ?_
    refine v_aload_n (pc := 24) (i := 0) F dX9_gladOnes_24 rfl rfl ?_
    refine v_getR (pc := 25) (o := 1) F fX9_12 dX9_gladOnes_25 rfl lx0 ?_
    refine v_topR (y := 1) rfl ?_
    refine v_getI (pc := 28) F fX9_150 dX9_gladOnes_28 rfl (lx9_0 lx0) ?_
    refine v_topE (y := (lfB (ν.1 1))) (hS.1.fil) ?_
    refine v_callVV (pc := 31) (As := [_, _, _]) (rest := []) (c := 2) F mX2_run kX9_260 im_X2_run se_X2_run dX9_gladOnes_31 rfl rfl (by decide) (c_X2_run 64 (lx9_4 lx0) 1 (lx9_0 lx0) n ν.1 _ (hS) hW (nI k_set) (ν.1 1) UU.self (by omega)) (by decide) rfl rfl (Nat.le_of_ble_eq_true rfl) (lx9_4 lx0) (fun μ3 hp3 => ?_)
    skip
    refine v_aload_n (pc := 34) (i := 0) F dX9_gladOnes_34 rfl rfl ?_
    refine v_getR (pc := 35) (o := 64) F fX9_25 dX9_gladOnes_35 rfl lx0 ?_
    refine v_topR (y := 64) rfl ?_
    refine v_getI (pc := 38) F fX9_270 dX9_gladOnes_38 rfl (lx9_4 lx0) ?_
    refine v_topE (y := (bK (fun l => tb (nI k_set) l && gdE ν.1 n (nI k_set) l) n)) (hp3.2.2.2.1) ?_
    refine v_ireturn (pc := 41) F dX9_gladOnes_41 (rfl) ?_
    simp only [s_gladOnes, rj, hnn, h5_2, ek_set, ↓reduceIte]
    refine ⟨?_, ?_⟩ <;> first | exact trivial | exact rfl | exact (hR.X hM hp3.1 (fun c j z => by omega)) | exact Rel.rj hM hR (by decide)
  · rw [b2i_0] at h5_2
    refine v_aload_n (pc := 8) (i := 0) F dX9_gladOnes_8 rfl rfl ?_
    refine v_bipush (pc := 9) (v := (-2)) F dX9_gladOnes_9 (by decide) ?_
    refine v_callVI (pc := 11) (As := [_]) (rest := []) (c := 9) F mX9_refuse kX9_79 im_X9_refuse se_X9_refuse dX9_gladOnes_11 rfl rfl (by decide) (c_X9_refuse (-2) 2 (by decide) (by decide) (by decide) _) (by decide) rfl rfl (Nat.le_of_ble_eq_true rfl) lx0 (fun x4 μ4 hp4 => ?_)
    rw [hp4.1, hp4.2]
    refine v_ireturn (pc := 14) F dX9_gladOnes_14 (rfl) ?_
    simp only [s_gladOnes, rj, hnn, h5_2, ↓reduceIte]
    refine ⟨?_, ?_⟩ <;> first | exact trivial | exact rfl | exact hR | exact Rel.rj hM hR (by decide)

set_option maxRecDepth 100000 in
theorem c_X9_empty (set : Int32) (μ ν : j_M) (hM : MI ν) (hR : Rel μ ν) : Ct yX9_empty cX9_empty 2 (some .int) 5 ΛX [.ref 0, .int set] μ (pI fun r μ2 => r = (s_empty set ν).1 ∧ Rel μ2 (s_empty set ν).2) := by
  refine Ct.go (lo := [some (.ref 0), some (.int set)]) (by decide) (Nat.le_of_ble_eq_true rfl) rfl rfl (fun X F => ?_)
  have F : Fx X cX9_empty RX9 5 (some .int) ΛX := F
  obtain ⟨n, hW, hsh, htp, him⟩ := id hM
  have hn := hW.1
  have hn8 := hW.2.1
  have hnn := nn_eq hn hn8
  have ho := hW.own
  have hpw := j_pw hn8
  have hS : SQ μ 1 ν.1 n := ⟨by have := hR.sc; rwa [hnn] at this, hn8⟩
  refine v_aload_n (pc := 0) (i := 0) F dX9_empty_0 rfl rfl ?_
  refine v_iload_n (pc := 1) (i := 1) F dX9_empty_1 rfl rfl ?_
  refine v_callVI (pc := 2) (As := [_]) (rest := []) (c := 9) F mX9_isSet kX9_257 im_X9_isSet se_X9_isSet dX9_empty_2 rfl rfl (by decide) (c_X9_isSet _ n ν.1 _ (hS)) (by decide) rfl rfl (Nat.le_of_ble_eq_true rfl) lx0 (fun x1 μ1 hp1 => ?_)
  rw [hp1.1, hp1.2]
  refine v_if_ne (pc := 5) (tgt := 15) F dX9_empty_5 (by decide) (fun h5_2 => ?_) (fun h5_2 => ?_)
  · rw [b2i_0] at h5_2
    rw [Classical.not_not] at h5_2
    obtain ⟨k_set, hk_set, he_set⟩ := inR_of (by omega) h5_2
    subst he_set
    have ek_set : ix (nI k_set) = k_set := nI_clamp (by omega)
    refine v_aload_n (pc := 15) (i := 0) F dX9_empty_15 rfl rfl ?_
    refine v_getR (pc := 16) (o := 64) F fX9_25 dX9_empty_16 rfl lx0 ?_
    refine v_topR (y := 64) rfl ?_
    refine v_aload_n (pc := 19) (i := 0) F dX9_empty_19 rfl rfl ?_
    refine v_getR (pc := 20) (o := 1) F fX9_12 dX9_empty_20 rfl lx0 ?_
    refine v_topR (y := 1) rfl ?_
    refine v_iload_n (pc := 23) (i := 1) F dX9_empty_23 rfl rfl ?_
    refine v_aload_n (pc := 24) (i := 0) F dX9_empty_24 rfl rfl ?_
    refine v_getR (pc := 25) (o := 1) F fX9_12 dX9_empty_25 rfl lx0 ?_
    refine v_topR (y := 1) rfl ?_
    refine v_getI (pc := 28) F fX9_150 dX9_empty_28 rfl (lx9_0 lx0) ?_
    refine v_topE (y := (lfB (ν.1 1))) (hS.1.fil) ?_
    refine v_callVV (pc := 31) (As := [_, _, _]) (rest := []) (c := 2) F mX2_run kX9_260 im_X2_run se_X2_run dX9_empty_31 rfl rfl (by decide) (c_X2_run 64 (lx9_4 lx0) 1 (lx9_0 lx0) n ν.1 _ (hS) hW (nI k_set) (ν.1 1) UU.self (by omega)) (by decide) rfl rfl (Nat.le_of_ble_eq_true rfl) (lx9_4 lx0) (fun μ3 hp3 => ?_)
    skip
    refine v_aload_n (pc := 34) (i := 0) F dX9_empty_34 rfl rfl ?_
    refine v_getR (pc := 35) (o := 64) F fX9_25 dX9_empty_35 rfl lx0 ?_
    refine v_topR (y := 64) rfl ?_
    refine v_getI (pc := 38) F fX9_273 dX9_empty_38 rfl (lx9_4 lx0) ?_
    refine v_topE (y := (bK (fun l => tb (nI k_set) l && (tE ν.1 n (nI k_set) l).isEmpty) n)) (hp3.2.2.2.2) ?_
    refine v_ireturn (pc := 41) F dX9_empty_41 (rfl) ?_
    simp only [s_empty, rj, hnn, h5_2, ek_set, ↓reduceIte]
    refine ⟨?_, ?_⟩ <;> first | exact trivial | exact rfl | exact (hR.X hM hp3.1 (fun c j z => by omega)) | exact Rel.rj hM hR (by decide)
  · rw [b2i_0] at h5_2
    refine v_aload_n (pc := 8) (i := 0) F dX9_empty_8 rfl rfl ?_
    refine v_bipush (pc := 9) (v := (-2)) F dX9_empty_9 (by decide) ?_
    refine v_callVI (pc := 11) (As := [_]) (rest := []) (c := 9) F mX9_refuse kX9_79 im_X9_refuse se_X9_refuse dX9_empty_11 rfl rfl (by decide) (c_X9_refuse (-2) 2 (by decide) (by decide) (by decide) _) (by decide) rfl rfl (Nat.le_of_ble_eq_true rfl) lx0 (fun x4 μ4 hp4 => ?_)
    rw [hp4.1, hp4.2]
    refine v_ireturn (pc := 14) F dX9_empty_14 (rfl) ?_
    simp only [s_empty, rj, hnn, h5_2, ↓reduceIte]
    refine ⟨?_, ?_⟩ <;> first | exact trivial | exact rfl | exact hR | exact Rel.rj hM hR (by decide)
