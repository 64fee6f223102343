/-! the reference's swaps: public methods -/
def othK (w : Nat → Nat → Int32) (n : Nat) : Nat := cK (fun l => !((swK w n 8).2 l == w 7 l)) n
def sw1 (m : j_M) (l : Nat) (v : Int32) : j_M := j_pI (j_pI (j_pI m 8 (8 * l + ix (m.1 7 l)) (jmax (nI 0) (m.1 8 (8 * l + ix (m.1 7 l)) - nI 1))) 7 l v) 8 (8 * l + ix v) (jmin (nI 99) ((j_pI (j_pI m 8 (8 * l + ix (m.1 7 l)) (jmax (nI 0) (m.1 8 (8 * l + ix (m.1 7 l)) - nI 1))) 7 l v).1 8 (8 * l + ix v) + nI 1))
def swM (g : Nat → Int32) (μ : j_M) : Nat → j_M
  | 0 => μ
  | l + 1 => if (swM g μ l).1 7 l = -1 then swM g μ l else sw1 (swM g μ l) l (g l)
def s_next_ (l : Int32) (μ : j_M) : Int32 × j_M := if inQ (nn μ) l = true then ((swK μ.1 (nn μ) 8).2 (ix l), μ) else rj (-2) 2 μ
def s_swapped (μ : j_M) : Int32 × j_M := (nI (othK μ.1 (nn μ)), μ)
def s_swap (μ : j_M) : Int32 × j_M := (nI (othK μ.1 (nn μ)), swM (swK μ.1 (nn μ) 8).2 μ (nn μ))
theorem Fm.both {P : Nat → Nat → Prop} {a b : j_M} {c j : Nat} {v : Int32} (h : Fm P a b) : Fm P (j_pI a c j v) (j_pI b c j v) := ⟨fun x y q => by
  by_cases e : x = c ∧ y = j
  · obtain ⟨e1, e2⟩ := e
    subst e1 e2
    rw [j_pI_at, j_pI_at]
  · rw [j_pI_off (by omega), j_pI_off (by omega)]; exact h.1 x y q, h.2⟩
theorem sw1_F {a b : j_M} {l : Nat} {v : Int32} (h : Fm PS a b) : Fm PS (sw1 a l v) (sw1 b l v) := by
  have e7 : b.1 7 l = a.1 7 l := h.1 7 l (by unfold PS; omega)
  have e8 : ∀ j, b.1 8 j = a.1 8 j := fun j => h.1 8 j (by unfold PS; omega)
  unfold sw1
  rw [e7, e8]
  have h1 : Fm PS (j_pI (j_pI a 8 (8 * l + ix (a.1 7 l)) (jmax (nI 0) (a.1 8 (8 * l + ix (a.1 7 l)) - nI 1))) 7 l v) (j_pI (j_pI b 8 (8 * l + ix (a.1 7 l)) (jmax (nI 0) (a.1 8 (8 * l + ix (a.1 7 l)) - nI 1))) 7 l v) := h.both.both
  rw [h1.1 8 (8 * l + ix v) (by unfold PS; omega)]
  exact h1.both
theorem sw_val {w : Nat → Nat → Int32} {n : Nat} (hn8 : n ≤ 8) (hw : ∀ l, l < n → TH (w 7 l)) {l : Nat} (hl : l < n) (h7 : ¬ w 7 l = -1) : ∃ s, s < 8 ∧ (swK w n 8).2 l = nI s := by
  have key : ∀ r, (∀ l, l < n → (swK w n r).1 l = true → ¬ w 7 l = -1) ∧ ∀ l, l < n → ¬ w 7 l = -1 → (swK w n r).1 l = true ∨ ∃ s, s < 8 ∧ (swK w n r).2 l = nI s := by
    intro r
    induction r with
    | zero => exact ⟨fun l _ h => by simpa [swK] using h, fun l _ h => Or.inl (by simpa [swK] using h)⟩
    | succ r ih =>
      refine ⟨fun l hl h => ih.1 l hl ?_, fun l hl h => ?_⟩
      · have h' : ((swK w n r).1 l && !(rnR w (swK w n r).1 n l)) = true := h
        rw [Bool.and_eq_true] at h'; exact h'.1
      · by_cases hr : rnR w (swK w n r).1 n l = true
        · right
          have hx := wsN_lt (w := w) hl (rnR_in hr)
          have h9 := ih.1 _ hx.1 hx.2
          rcases hw _ hx.1 with q | ⟨s, hs, q⟩
          · exact absurd q h9
          · exact ⟨s, hs, by rw [← q]; exact if_pos hr⟩
        · rcases ih.2 l hl h with q | ⟨s, hs, q⟩
          · left
            show ((swK w n r).1 l && !(rnR w (swK w n r).1 n l)) = true
            rw [q]; simpa using hr
          · exact Or.inr ⟨s, hs, by rw [← q]; exact if_neg hr⟩
  rcases (key 8).2 l hl h7 with q | q
  · exfalso
    have h8 := sw_left (w := w) (n := n) 8
    have := cK_z (P := (swK w n 8).1) (n := n) (by omega) l hl
    rw [q] at this
    exact absurd this (by decide)
  · exact q
theorem th_s {x : Int32} (h : TH x) (h7 : ¬ x = -1) : ∃ s, s < 8 ∧ x = nI s := h.resolve_left h7

set_option maxRecDepth 100000 in
theorem c_X10_next_ (l : Int32) (μ : j_M) (hM : MI μ) : Ct yX10_next_ cX10_next_ 2 (some .int) 4 ΛM [.ref 0, .int l] μ (pI fun r μ2 => r = (s_next_ l μ).1 ∧ Fm PS (s_next_ l μ).2 μ2) := by
  refine Ct.go (lo := [some (.ref 0), some (.int l)]) (by decide) (Nat.le_of_ble_eq_true rfl) rfl rfl (fun X F => ?_)
  have F : Fx X cX10_next_ RX10 4 (some .int) ΛM := F
  obtain ⟨n, hW, hsh, htp, him⟩ := id hM
  have hn := hW.1
  have hn8 := hW.2.1
  have hnn := nn_eq hn hn8
  have ho := hW.own
  have hrw : RW μ.1 n μ := RW.self hn
  have hpw := j_pw hn8
  refine v_aload_n (pc := 0) (i := 0) F dX10_next__0 rfl rfl ?_
  refine v_iload_n (pc := 1) (i := 1) F dX10_next__1 rfl rfl ?_
  refine v_callVI (pc := 2) (As := [_]) (rest := []) (c := 10) F mX10_isLooker kX10_110 im_X10_isLooker se_X10_isLooker dX10_next__2 rfl rfl (by decide) (c_X10_isLooker _ n _ (by first | exact hn | assumption) hn8) (by decide) rfl rfl (Nat.le_of_ble_eq_true rfl) lm0 (fun x1 μ1 hp1 => ?_)
  rw [hp1.1, hp1.2]
  refine v_if_ne (pc := 5) (tgt := 15) F dX10_next__5 (by decide) (fun h5_2 => ?_) (fun h5_2 => ?_)
  · rw [b2i_0] at h5_2
    rw [Classical.not_not] at h5_2
    obtain ⟨k_l, hk_l, he_l⟩ := inR_of (by omega) h5_2
    subst he_l
    have ek_l : ix (nI k_l) = k_l := nI_clamp (by omega)
    refine v_aload_n (pc := 15) (i := 0) F dX10_next__15 rfl rfl ?_
    refine v_callVV (pc := 16) (As := []) (rest := []) (c := 10) F mX10_swaps kX10_287 im_X10_swaps se_X10_swaps dX10_next__16 rfl rfl (by decide) (c_X10_swaps n _ hn hn8) (by decide) rfl rfl (Nat.le_of_ble_eq_true rfl) lm0 (fun μ3 hp3 => ?_)
    have hq := hp3
    have hn2 := (hq.1.1 0 1 (by omega)).trans hn
    generalize μ3 = μ' at hq hn2 ⊢
    refine v_aload_n (pc := 19) (i := 0) F dX10_next__19 rfl rfl ?_
    refine v_getR (pc := 20) (o := 22) F fX10_75 dX10_next__20 rfl lm0 ?_
    refine v_topR (y := 22) rfl ?_
    refine v_iload_n (pc := 23) (i := 1) F dX10_next__23 rfl rfl ?_
    refine v_ialdN (pc := 24) (k0 := k_l) F dX10_next__24 (lm10_31 lm0) (rfl) (by omega) (by decide) ?_
    refine v_ireturn (pc := 25) F dX10_next__25 (rfl) ?_
    simp only [s_next_, hnn, h5_2, ek_l, ↓reduceIte]
    exact ⟨hq.2 k_l (by omega), PW_PS hq.1⟩
  · rw [b2i_0] at h5_2
    refine v_aload_n (pc := 8) (i := 0) F dX10_next__8 rfl rfl ?_
    refine v_bipush (pc := 9) (v := (-2)) F dX10_next__9 (by decide) ?_
    refine v_callVI (pc := 11) (As := [_]) (rest := []) (c := 10) F mX10_no kX10_96 im_X10_no se_X10_no dX10_next__11 rfl rfl (by decide) (c_X10_no (-2) 2 (by decide) (by decide) _) (by decide) rfl rfl (Nat.le_of_ble_eq_true rfl) lm0 (fun x4 μ4 hp4 => ?_)
    rw [hp4.1, hp4.2]
    refine v_ireturn (pc := 14) F dX10_next__14 (rfl) ?_
    simp only [s_next_, rj, hnn, h5_2, ↓reduceIte]
    refine ⟨?_, ?_⟩ <;> first | exact trivial | exact rfl | exact Fm.rf

set_option maxRecDepth 100000 in
theorem c_X10_others (n : Nat) (μ : j_M) (hn : μ.1 0 1 = nI n) (hn8 : n ≤ 8) : Ct yX10_others cX10_others 3 (some .int) 3 ΛM [.ref 0] μ (pI fun r μ2 => r = nI (othK μ.1 n) ∧ Fm PW μ μ2 ∧ ∀ l, l < n → μ2.1 22 l = (swK μ.1 n 8).2 l) := by
  refine Ct.go (lo := [some (.ref 0), none, none]) (by decide) (Nat.le_of_ble_eq_true rfl) rfl rfl (fun X F => ?_)
  have F : Fx X cX10_others RX10 3 (some .int) ΛM := F
  refine v_aload_n (pc := 0) (i := 0) F dX10_others_0 rfl rfl ?_
  refine v_callVV (pc := 1) (As := []) (rest := []) (c := 10) F mX10_swaps kX10_287 im_X10_swaps se_X10_swaps dX10_others_1 rfl rfl (by decide) (c_X10_swaps n _ hn hn8) (by decide) rfl rfl (Nat.le_of_ble_eq_true rfl) lm0 (fun μ1 hp1 => ?_)
  have hq := hp1
  have hn2 := (hq.1.1 0 1 (by omega)).trans hn
  generalize μ1 = μ' at hq hn2 ⊢
  refine v_iconst (pc := 4) (v := nI 0) F dX10_others_4 (by decide) ?_
  refine v_istore_n (pc := 5) (lo' := [some (.ref _), some (.int _), _]) F dX10_others_5 rfl rfl (Nat.le_of_ble_eq_true rfl) rfl ?_
  refine v_iconst (pc := 6) (v := nI 0) F dX10_others_6 (by decide) ?_
  refine v_istore_n (pc := 7) (lo' := [some (.ref _), some (.int _), some (.int _)]) F dX10_others_7 rfl rfl (Nat.le_of_ble_eq_true rfl) rfl ?_
  refine j_up n (fun k => V X _ 8 [some (.ref 0), some (.int (nI (cK (fun l => !((swK μ.1 n 8).2 l == μ.1 7 l)) k))), some (.int (nI k))] [] μ') (fun k hk ih => ?_) 0 (Nat.zero_le _)
  refine v_iload_n (pc := 8) (i := 2) F dX10_others_8 rfl rfl ?_
  refine v_aload_n (pc := 9) (i := 0) F dX10_others_9 rfl rfl ?_
  refine v_getI (pc := 10) F fX10_89 dX10_others_10 rfl lm0 ?_
  refine v_topE (hn2) ?_
  refine v_icmp_ge (pc := 13) (tgt := 40) F dX10_others_13 (by decide) (fun h13_2 => ?_) (fun h13_2 => ?_)
  · rw [nI_leI (by omega) (by omega)] at h13_2
    refine v_iload_n (pc := 40) (i := 1) F dX10_others_40 rfl rfl ?_
    refine v_ireturn (pc := 41) F dX10_others_41 (rfl) ?_
    have e : k = n := by omega
    subst e
    exact ⟨rfl, hq⟩
  · rw [nI_leI (by omega) (by omega)] at h13_2
    refine v_aload_n (pc := 16) (i := 0) F dX10_others_16 rfl rfl ?_
    refine v_getR (pc := 17) (o := 22) F fX10_75 dX10_others_17 rfl lm0 ?_
    refine v_topR (y := 22) rfl ?_
    refine v_iload_n (pc := 20) (i := 2) F dX10_others_20 rfl rfl ?_
    refine v_ialdN (pc := 21) (k0 := k) F dX10_others_21 (lm10_31 lm0) (rfl) (by omega) (by decide) ?_
    refine v_aload_n (pc := 22) (i := 0) F dX10_others_22 rfl rfl ?_
    refine v_getR (pc := 23) (o := 7) F fX10_28 dX10_others_23 rfl lm0 ?_
    refine v_topR (y := 7) rfl ?_
    refine v_iload_n (pc := 26) (i := 2) F dX10_others_26 rfl rfl ?_
    refine v_ialdN (pc := 27) (k0 := k) F dX10_others_27 (lm10_7 lm0) (rfl) (by omega) (by decide) ?_
    refine v_icmp_eq (pc := 28) (tgt := 34) F dX10_others_28 (by decide) (fun hc => ?_) (fun hc => ?_)
    · rw [hq.2 k (by omega), SW_w hq.1 7 (by omega)] at hc
      refine v_iinc (pc := 34) (i := 2) (v := nI (k + 1)) (lo' := [some (.ref _), some (.int _), some (.int _)]) F dX10_others_34 rfl (j_inc _) rfl rfl ?_
      refine v_goto (pc := 37) (tgt := 8) F dX10_others_37 (by decide) ?_
      have q := ih (by omega)
      first | (rw [cK_t (k := k) (by simpa using hc)] at q; exact q) | (rw [cK_f (k := k) (by simpa using hc)] at q; exact q)
    · rw [hq.2 k (by omega), SW_w hq.1 7 (by omega)] at hc
      refine v_iinc (pc := 31) (i := 1) (v := nI (cK (fun l => !((swK μ.1 n 8).2 l == μ.1 7 l)) k + 1)) (lo' := [some (.ref _), some (.int _), some (.int _)]) F dX10_others_31 rfl (j_inc _) rfl rfl ?_
      refine v_iinc (pc := 34) (i := 2) (v := nI (k + 1)) (lo' := [some (.ref _), some (.int _), some (.int _)]) F dX10_others_34 rfl (j_inc _) rfl rfl ?_
      refine v_goto (pc := 37) (tgt := 8) F dX10_others_37 (by decide) ?_
      have q := ih (by omega)
      first | (rw [cK_t (k := k) (by simpa using hc)] at q; exact q) | (rw [cK_f (k := k) (by simpa using hc)] at q; exact q)

set_option maxRecDepth 100000 in
theorem c_X10_swapped  (μ : j_M) (hM : MI μ) : Ct yX10_swapped cX10_swapped 1 (some .int) 4 ΛM [.ref 0] μ (pI fun r μ2 => r = (s_swapped μ).1 ∧ Fm PS (s_swapped μ).2 μ2) := by
  refine Ct.go (lo := [some (.ref 0)]) (by decide) (Nat.le_of_ble_eq_true rfl) rfl rfl (fun X F => ?_)
  have F : Fx X cX10_swapped RX10 4 (some .int) ΛM := F
  obtain ⟨n, hW, hsh, htp, him⟩ := id hM
  have hn := hW.1
  have hn8 := hW.2.1
  have hnn := nn_eq hn hn8
  have ho := hW.own
  have hrw : RW μ.1 n μ := RW.self hn
  have hpw := j_pw hn8
  refine v_aload_n (pc := 0) (i := 0) F dX10_swapped_0 rfl rfl ?_
  refine v_callVI (pc := 1) (As := []) (rest := []) (c := 10) F mX10_others kX10_290 im_X10_others se_X10_others dX10_swapped_1 rfl rfl (by decide) (c_X10_others n _ hn hn8) (by decide) rfl rfl (Nat.le_of_ble_eq_true rfl) lm0 (fun x1 μ1 hp1 => ?_)
  rw [hp1.1]
  have hq := hp1.2
  have hn2 := (hq.1.1 0 1 (by omega)).trans hn
  generalize μ1 = μ' at hq hn2 ⊢
  refine v_ireturn (pc := 4) F dX10_swapped_4 (rfl) ?_
  simp only [s_swapped, hnn]
  exact ⟨by first | exact trivial | exact rfl, PW_PS hq.1⟩

set_option maxRecDepth 100000 in
theorem c_X10_swap  (μ : j_M) (hM : MI μ) : Ct yX10_swap cX10_swap 3 (some .int) 4 ΛM [.ref 0] μ (pI fun r μ2 => r = (s_swap μ).1 ∧ Fm PS (s_swap μ).2 μ2) := by
  refine Ct.go (lo := [some (.ref 0), none, none]) (by decide) (Nat.le_of_ble_eq_true rfl) rfl rfl (fun X F => ?_)
  have F : Fx X cX10_swap RX10 4 (some .int) ΛM := F
  obtain ⟨n, hW, hsh, htp, him⟩ := id hM
  have hn := hW.1
  have hn8 := hW.2.1
  have hnn := nn_eq hn hn8
  have ho := hW.own
  have hrw : RW μ.1 n μ := RW.self hn
  have hpw := j_pw hn8
  refine v_aload_n (pc := 0) (i := 0) F dX10_swap_0 rfl rfl ?_
  refine v_callVI (pc := 1) (As := []) (rest := []) (c := 10) F mX10_others kX10_290 im_X10_others se_X10_others dX10_swap_1 rfl rfl (by decide) (c_X10_others n _ hn hn8) (by decide) rfl rfl (Nat.le_of_ble_eq_true rfl) lm0 (fun x1 μ1 hp1 => ?_)
  rw [hp1.1]
  have hq := hp1.2
  have hn2 := (hq.1.1 0 1 (by omega)).trans hn
  generalize μ1 = μ' at hq hn2 ⊢
  refine v_istore_n (pc := 4) (lo' := [some (.ref _), some (.int _), _]) F dX10_swap_4 rfl rfl (Nat.le_of_ble_eq_true rfl) rfl ?_
  refine v_iconst (pc := 5) (v := nI 0) F dX10_swap_5 (by decide) ?_
  refine v_istore_n (pc := 6) (lo' := [some (.ref _), some (.int _), some (.int _)]) F dX10_swap_6 rfl rfl (Nat.le_of_ble_eq_true rfl) rfl ?_
  refine j_up n (fun k => ∀ μ2 : j_M, (Fm PS (swM (swK μ.1 n 8).2 μ k) μ2 ∧ (∀ l, l < n → k ≤ l → μ2.1 7 l = μ.1 7 l) ∧ (∀ l, l < n → μ2.1 22 l = (swK μ.1 n 8).2 l) ∧ μ2.1 0 1 = nI n) → V X _ 7 [some (.ref 0), some (.int (nI (othK μ.1 n))), some (.int (nI k))] [] μ2) (fun k hk ih μ2 hI => ?_) 0 (Nat.zero_le _) μ' (⟨PW_PS hq.1, fun l _ _ => hq.1.1 7 l (by omega), hq.2, hn2⟩)
  refine v_iload_n (pc := 7) (i := 2) F dX10_swap_7 rfl rfl ?_
  refine v_aload_n (pc := 8) (i := 0) F dX10_swap_8 rfl rfl ?_
  refine v_getI (pc := 9) F fX10_89 dX10_swap_9 rfl lm0 ?_
  refine v_topE (hI.2.2.2) ?_
  refine v_icmp_ge (pc := 12) (tgt := 123) F dX10_swap_12 (by decide) (fun h12_2 => ?_) (fun h12_2 => ?_)
  · rw [nI_leI (by omega) (by omega)] at h12_2
    refine v_iload_n (pc := 123) (i := 1) F dX10_swap_123 rfl rfl ?_
    refine v_ireturn (pc := 124) F dX10_swap_124 (rfl) ?_
    have e : k = n := by omega
    subst e
    simp only [s_swap, hnn, h12_2]
    exact ⟨by first | exact trivial | exact rfl, hI.1⟩
  · rw [nI_leI (by omega) (by omega)] at h12_2
    refine v_aload_n (pc := 15) (i := 0) F dX10_swap_15 rfl rfl ?_
    refine v_getR (pc := 16) (o := 7) F fX10_28 dX10_swap_16 rfl lm0 ?_
    refine v_topR (y := 7) rfl ?_
    refine v_iload_n (pc := 19) (i := 2) F dX10_swap_19 rfl rfl ?_
    refine v_ialdN (pc := 20) (k0 := k) F dX10_swap_20 (lm10_7 lm0) (rfl) (by omega) (by decide) ?_
    refine v_iconst (pc := 21) (v := (-1)) F dX10_swap_21 (by decide) ?_
    refine v_icmp_ne (pc := 22) (tgt := 28) F dX10_swap_22 (by decide) (fun hs => ?_) (fun hs => ?_)
    · rw [hI.2.1 k (by omega) (by omega)] at hs
      obtain ⟨sh, hsh8, hse⟩ := th_s (hW.2.2.2 k (by omega)).2.2 hs
      have hse2 := (hI.2.1 k (by omega) (by omega)).trans hse
      obtain ⟨gh, hgh8, hge⟩ := sw_val hn8 (fun l hl => (hW.2.2.2 l hl).2.2) (by omega) hs
      refine v_aload_n (pc := 28) (i := 0) F dX10_swap_28 rfl rfl ?_
      refine v_getR (pc := 29) (o := 8) F fX10_31 dX10_swap_29 rfl lm0 ?_
      refine v_topR (y := 8) rfl ?_
      refine v_bipush (pc := 32) (v := nI 8) F dX10_swap_32 (by decide) ?_
      refine v_iload_n (pc := 34) (i := 2) F dX10_swap_34 rfl rfl ?_
      refine v_imul (pc := 35) F dX10_swap_35 ?_
      refine v_topE (pk_mul _ _) ?_
      refine v_aload_n (pc := 36) (i := 0) F dX10_swap_36 rfl rfl ?_
      refine v_getR (pc := 37) (o := 7) F fX10_28 dX10_swap_37 rfl lm0 ?_
      refine v_topR (y := 7) rfl ?_
      refine v_iload_n (pc := 40) (i := 2) F dX10_swap_40 rfl rfl ?_
      refine v_ialdN (pc := 41) (k0 := k) F dX10_swap_41 (lm10_7 lm0) (rfl) (by omega) (by decide) ?_
      refine v_topE (y := nI sh) (hse2) ?_
      refine v_iadd (pc := 42) F dX10_swap_42 ?_
      refine v_topE (nI_add _ _) ?_
      refine v_iconst (pc := 43) (v := nI 0) F dX10_swap_43 (by decide) ?_
      refine v_aload_n (pc := 44) (i := 0) F dX10_swap_44 rfl rfl ?_
      refine v_getR (pc := 45) (o := 8) F fX10_31 dX10_swap_45 rfl lm0 ?_
      refine v_topR (y := 8) rfl ?_
      refine v_bipush (pc := 48) (v := nI 8) F dX10_swap_48 (by decide) ?_
      refine v_iload_n (pc := 50) (i := 2) F dX10_swap_50 rfl rfl ?_
      refine v_imul (pc := 51) F dX10_swap_51 ?_
      refine v_topE (pk_mul _ _) ?_
      refine v_aload_n (pc := 52) (i := 0) F dX10_swap_52 rfl rfl ?_
      refine v_getR (pc := 53) (o := 7) F fX10_28 dX10_swap_53 rfl lm0 ?_
      refine v_topR (y := 7) rfl ?_
      refine v_iload_n (pc := 56) (i := 2) F dX10_swap_56 rfl rfl ?_
      refine v_ialdN (pc := 57) (k0 := k) F dX10_swap_57 (lm10_7 lm0) (rfl) (by omega) (by decide) ?_
      refine v_topE (y := nI sh) (hse2) ?_
      refine v_iadd (pc := 58) F dX10_swap_58 ?_
      refine v_topE (nI_add _ _) ?_
      refine v_ialdN (pc := 59) (k0 := 8 * k + sh) F dX10_swap_59 (lm10_8 lm0) (rfl) (by omega) (by decide) ?_
      refine v_iconst (pc := 60) (v := nI 1) F dX10_swap_60 (by decide) ?_
      refine v_isub (pc := 61) F dX10_swap_61 ?_
      refine v_mmax (pc := 62) F dX10_swap_62 mlX10_310 (Nat.le_of_ble_eq_true rfl) ?_
      refine v_iastN (pc := 65) (k0 := 8 * k + sh) F dX10_swap_65 (lm10_8 lm0) (rfl) (by omega) (by decide) ?_
      refine v_aload_n (pc := 66) (i := 0) F dX10_swap_66 rfl rfl ?_
      refine v_getR (pc := 67) (o := 7) F fX10_28 dX10_swap_67 rfl lm0 ?_
      refine v_topR (y := 7) rfl ?_
      refine v_iload_n (pc := 70) (i := 2) F dX10_swap_70 rfl rfl ?_
      refine v_aload_n (pc := 71) (i := 0) F dX10_swap_71 rfl rfl ?_
      refine v_getR (pc := 72) (o := 22) F fX10_75 dX10_swap_72 rfl lm0 ?_
      refine v_topR (y := 22) rfl ?_
      refine v_iload_n (pc := 75) (i := 2) F dX10_swap_75 rfl rfl ?_
      refine v_ialdN (pc := 76) (k0 := k) F dX10_swap_76 (lm10_31 lm0) (rfl) (by omega) (by decide) ?_
      refine v_topE (y := nI gh) (by rw [j_pI_ne (by decide)]; exact (hI.2.2.1 k (by omega)).trans hge) ?_
      refine v_iastN (pc := 77) (k0 := k) F dX10_swap_77 (lm10_7 lm0) (rfl) (by omega) (by decide) ?_
      refine v_aload_n (pc := 78) (i := 0) F dX10_swap_78 rfl rfl ?_
      refine v_getR (pc := 79) (o := 8) F fX10_31 dX10_swap_79 rfl lm0 ?_
      refine v_topR (y := 8) rfl ?_
      refine v_bipush (pc := 82) (v := nI 8) F dX10_swap_82 (by decide) ?_
      refine v_iload_n (pc := 84) (i := 2) F dX10_swap_84 rfl rfl ?_
      refine v_imul (pc := 85) F dX10_swap_85 ?_
      refine v_topE (pk_mul _ _) ?_
      refine v_aload_n (pc := 86) (i := 0) F dX10_swap_86 rfl rfl ?_
      refine v_getR (pc := 87) (o := 7) F fX10_28 dX10_swap_87 rfl lm0 ?_
      refine v_topR (y := 7) rfl ?_
      refine v_iload_n (pc := 90) (i := 2) F dX10_swap_90 rfl rfl ?_
      refine v_ialdN (pc := 91) (k0 := k) F dX10_swap_91 (lm10_7 lm0) (rfl) (by omega) (by decide) ?_
      refine v_topE (y := nI gh) (by rw [j_pI_at]) ?_
      refine v_iadd (pc := 92) F dX10_swap_92 ?_
      refine v_topE (nI_add _ _) ?_
      refine v_bipush (pc := 93) (v := nI 99) F dX10_swap_93 (by decide) ?_
      refine v_aload_n (pc := 95) (i := 0) F dX10_swap_95 rfl rfl ?_
      refine v_getR (pc := 96) (o := 8) F fX10_31 dX10_swap_96 rfl lm0 ?_
      refine v_topR (y := 8) rfl ?_
      refine v_bipush (pc := 99) (v := nI 8) F dX10_swap_99 (by decide) ?_
      refine v_iload_n (pc := 101) (i := 2) F dX10_swap_101 rfl rfl ?_
      refine v_imul (pc := 102) F dX10_swap_102 ?_
      refine v_topE (pk_mul _ _) ?_
      refine v_aload_n (pc := 103) (i := 0) F dX10_swap_103 rfl rfl ?_
      refine v_getR (pc := 104) (o := 7) F fX10_28 dX10_swap_104 rfl lm0 ?_
      refine v_topR (y := 7) rfl ?_
      refine v_iload_n (pc := 107) (i := 2) F dX10_swap_107 rfl rfl ?_
      refine v_ialdN (pc := 108) (k0 := k) F dX10_swap_108 (lm10_7 lm0) (rfl) (by omega) (by decide) ?_
      refine v_topE (y := nI gh) (by rw [j_pI_at]) ?_
      refine v_iadd (pc := 109) F dX10_swap_109 ?_
      refine v_topE (nI_add _ _) ?_
      refine v_ialdN (pc := 110) (k0 := 8 * k + gh) F dX10_swap_110 (lm10_8 lm0) (rfl) (by omega) (by decide) ?_
      refine v_iconst (pc := 111) (v := nI 1) F dX10_swap_111 (by decide) ?_
      refine v_iadd (pc := 112) F dX10_swap_112 ?_
      refine v_mmin (pc := 113) F dX10_swap_113 mlX10_299 (Nat.le_of_ble_eq_true rfl) ?_
      refine v_iastN (pc := 116) (k0 := 8 * k + gh) F dX10_swap_116 (lm10_8 lm0) (rfl) (by omega) (by decide) ?_
      refine v_iinc (pc := 117) (i := 2) (v := nI (k + 1)) (lo' := [some (.ref _), some (.int _), some (.int _)]) F dX10_swap_117 rfl (j_inc _) rfl rfl ?_
      refine v_goto (pc := 120) (tgt := 7) F dX10_swap_120 (by decide) ?_
      have em : (swM (swK μ.1 n 8).2 μ k).1 7 k = μ.1 7 k := (hI.1.1 7 k (by unfold PS; omega)).symm.trans (hI.2.1 k (by omega) (Nat.le_refl k))
      have hF := sw1_F (l := k) (v := nI gh) hI.1
      have ee : sw1 μ2 k (nI gh) = (j_pI (j_pI (j_pI μ2 8 (8 * k + sh) ((jmax (nI 0) (((μ2.1 8 (8 * k + sh)) - nI 1))))) 7 k (nI gh)) 8 (8 * k + gh) ((jmin (nI 99) ((((j_pI (j_pI μ2 8 (8 * k + sh) ((jmax (nI 0) (((μ2.1 8 (8 * k + sh)) - nI 1))))) 7 k (nI gh)).1 8 (8 * k + gh)) + nI 1))))) := by
        unfold sw1
        rw [show ix (μ2.1 7 k) = sh from by rw [hse2]; exact ix_nI (by omega), show ix (nI gh) = gh from ix_nI (by omega)]
      rw [← ee]
      refine ih (by omega) _ ⟨?_, fun l h1 h2 => ?_, fun l h1 => ?_, ?_⟩
      · rw [show swM (swK μ.1 n 8).2 μ (k + 1) = sw1 (swM (swK μ.1 n 8).2 μ k) k (nI gh) from by rw [← hge]; exact if_neg (by rw [em]; exact hs)]
        exact hF
      · rw [ee, j_pI_ne (by decide), j_pI_off (by omega), j_pI_ne (by decide)]; exact hI.2.1 l h1 (by omega)
      · rw [ee, j_pI_ne (by decide), j_pI_ne (by decide), j_pI_ne (by decide)]; exact hI.2.2.1 l h1
      · rw [ee, j_pI_ne (by decide), j_pI_ne (by decide), j_pI_ne (by decide)]; exact hI.2.2.2
    · rw [hI.2.1 k (by omega) (by omega)] at hs
      refine v_goto (pc := 25) (tgt := 117) F dX10_swap_25 (by decide) ?_
      refine v_iinc (pc := 117) (i := 2) (v := nI (k + 1)) (lo' := [some (.ref _), some (.int _), some (.int _)]) F dX10_swap_117 rfl (j_inc _) rfl rfl ?_
      refine v_goto (pc := 120) (tgt := 7) F dX10_swap_120 (by decide) ?_
      have em : (swM (swK μ.1 n 8).2 μ k).1 7 k = μ.1 7 k := (hI.1.1 7 k (by unfold PS; omega)).symm.trans (hI.2.1 k (by omega) (Nat.le_refl k))
      refine ih (by omega) _ ⟨?_, fun l h1 h2 => hI.2.1 l h1 (by omega), hI.2.2⟩
      rw [show swM (swK μ.1 n 8).2 μ (k + 1) = (swM (swK μ.1 n 8).2 μ k) from if_pos (em.trans hs)]
      exact hI.1
