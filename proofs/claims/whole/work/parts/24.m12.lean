/-! the reference's swaps: methods -/
abbrev PW (c j : Nat) : Prop := c = 20 ∨ c = 21 ∨ c = 22
theorem PW_PS {a b : j_M} (h : Fm PW a b) : Fm PS a b := h.mono (fun c j q => Or.inl (by omega))
theorem wsF_le {w : Nat → Nat → Int32} {I : Nat → Bool} {n l s x : Nat} (h : wsF w I n l s = some x) : ∀ m, s ≤ m → wsF w I n l m = some x := by
  intro m
  induction m with
  | zero => intro hm; rwa [show s = 0 by omega] at h
  | succ m ih =>
    intro hm
    by_cases e : s = m + 1
    · rwa [e] at h
    · exact wsF_s (ih (by omega))
theorem rgA_f {wi : Nat → Nat} {l k : Nat} (h : ¬ rgA wi l k = l) : rgA wi l (k + 1) = wi (rgA wi l k) := if_neg h
theorem rgA_le {wi : Nat → Nat} {l k m : Nat} (h : rgA wi l k = l) (hm : k ≤ m) : rgA wi l m = l := by
  rw [rgA_iff] at h ⊢
  obtain ⟨q, h1, h2⟩ := h
  exact ⟨q, by omega, h2⟩
theorem cK_mono {P Q : Nat → Bool} {n : Nat} (h : ∀ l, l < n → P l = true → Q l = true) : cK P n ≤ cK Q n := by
  induction n with
  | zero => exact Nat.le_refl _
  | succ n ih =>
    have := ih (fun l hl => h l (by omega))
    by_cases hp : P n = true
    · rw [cK_t hp, cK_t (h n (by omega) hp)]; omega
    · rw [cK_f hp]
      by_cases hq : Q n = true
      · rw [cK_t hq]; omega
      · rw [cK_f hq]; exact this
theorem cK_up {P : Nat → Bool} {k n : Nat} (h : k ≤ n) : cK P k ≤ cK P n := by
  induction n with
  | zero => rw [show k = 0 by omega]; exact Nat.le_refl _
  | succ n ih =>
    by_cases e : k = n + 1
    · rw [e]; exact Nat.le_refl _
    · have := ih (by omega)
      by_cases hp : P n = true
      · rw [cK_t hp]; omega
      · rw [cK_f hp]; exact this
theorem cK_z {P : Nat → Bool} {n : Nat} (h : cK P n = 0) : ∀ l, l < n → P l = false := by
  intro l hl
  by_cases hp : P l = true
  · have := cK_up (P := P) (show l + 1 ≤ n by omega)
    rw [cK_t hp] at this
    omega
  · simpa using hp
theorem cK_ex {P : Nat → Bool} {n : Nat} (h : ¬ cK P n = 0) : ∃ l, l < n ∧ P l = true := by
  by_cases hc : ∃ l, l < n ∧ P l = true
  · exact hc
  · exfalso
    apply h
    rw [cK_congr (Q := fun _ => false) (fun p hp => by
      by_cases hq : P p = true
      · exact absurd ⟨p, hp, hq⟩ hc
      · simpa using hq)]
    clear h hc
    induction n with
    | zero => rfl
    | succ n ih => rw [cK_f (by simp)]; exact ih
theorem cK_part {I R : Nat → Bool} {n : Nat} (h : ∀ l, l < n → R l = true → I l = true) : cK (fun l => I l && !(R l)) n + cK R n = cK I n := by
  induction n with
  | zero => rfl
  | succ n ih =>
    have := ih (fun l hl => h l (by omega))
    by_cases hr : R n = true
    · rw [cK_f (by simp [hr]), cK_t hr, cK_t (h n (by omega) hr)]; omega
    · by_cases hi : I n = true
      · rw [cK_t (by simp [hi, hr]), cK_f hr, cK_t hi]; omega
      · rw [cK_f (by simp [hi]), cK_f hr, cK_f hi]; exact this
theorem rnR_in {w : Nat → Nat → Int32} {I : Nat → Bool} {n l : Nat} (h : rnR w I n l = true) : I l = true := by
  unfold rnR at h; simp at h; exact h.1
theorem rn_ex {w : Nat → Nat → Int32} {I : Nat → Bool} {n : Nat} (h : ¬ cK I n = 0) : ¬ cK (rnR w I n) n = 0 := by
  obtain ⟨l, hl, hI⟩ := cK_ex h
  obtain ⟨x, ⟨hx, hxI⟩, hr⟩ := ring_ex (wi := wsN w I n) (J := fun z => z < n ∧ I z = true) (n := n) (fun z hz => wsN_lt hz.1 hz.2) (fun z hz => hz.1) ⟨hl, hI⟩
  intro h0
  have := cK_z h0 x hx
  unfold rnR at this
  simp [hxI, hr] at this
theorem sw_cnt {w : Nat → Nat → Int32} {n r : Nat} : cK (swK w n (r + 1)).1 n + cK (rnR w (swK w n r).1 n) n = cK (swK w n r).1 n := cK_part (fun _ _ => rnR_in)
theorem sw_left {w : Nat → Nat → Int32} {n : Nat} : ∀ r, cK (swK w n r).1 n + r ≤ n ∨ cK (swK w n r).1 n = 0 := by
  intro r
  induction r with
  | zero => left; exact cK_le _ _
  | succ r ih =>
    by_cases h0 : cK (swK w n r).1 n = 0
    · right; have := sw_cnt (w := w) (n := n) (r := r); omega
    · have h1 := rn_ex (w := w) h0
      have := sw_cnt (w := w) (n := n) (r := r)
      rcases ih with q | q
      · left; omega
      · exact absurd q h0
theorem sw_stop {w : Nat → Nat → Int32} {n r : Nat} (h : cK (swK w n r).1 n = 0) : ∀ m, r ≤ m → ∀ l, l < n → (swK w n m).1 l = false ∧ (swK w n m).2 l = (swK w n r).2 l := by
  intro m
  induction m with
  | zero => intro hm l hl; rw [show r = 0 by omega] at h ⊢; exact ⟨cK_z h l hl, rfl⟩
  | succ m ih =>
    intro hm l hl
    by_cases e : r = m + 1
    · rw [e] at h ⊢; exact ⟨cK_z h l hl, rfl⟩
    · obtain ⟨h1, h2⟩ := ih (by omega) l hl
      have hr : rnR w (swK w n m).1 n l = false := by unfold rnR; rw [h1]; rfl
      constructor
      · show ((swK w n m).1 l && _) = false
        rw [h1]; rfl
      · show (if rnR w (swK w n m).1 n l = true then _ else (swK w n m).2 l) = _
        rw [hr]; exact h2
/-- memory at the start of a round -/
def SW (μ : j_M) (n r : Nat) (μ' : j_M) : Prop := Fm PW μ μ' ∧ (∀ l, l < n → (μ'.1 21 l = 0) = ((swK μ.1 n r).1 l = true)) ∧ ∀ l, l < n → μ'.1 22 l = (swK μ.1 n r).2 l
theorem nar0 : vp_nar .boolean (nI 0) = nI 0 := by decide
theorem nar1 : vp_nar .boolean (nI 1) = nI 1 := by decide
theorem nI_dec {a : Nat} (h : 0 < a) : nI a + Int32.ofInt (-1) = nI (a - 1) := by
  conv => lhs; rw [show a = (a - 1) + 1 by omega, ← nI_add]
  rw [Int32.add_assoc, show nI 1 + Int32.ofInt (-1) = 0 from by decide, Int32.add_zero]

set_option maxRecDepth 100000 in
theorem c_X10_bringer (so : Int32) (n : Nat) (w : Nat → Nat → Int32) (I : Nat → Bool) (μ : j_M) (hn : μ.1 0 1 = nI n) (hn8 : n ≤ 8) (h3 : μ.1 3 = w 3) (h5 : μ.1 5 = w 5) (h7 : μ.1 7 = w 7) (hI : ∀ l, l < n → (μ.1 21 l = 0) = (I l = true)) : Ct yX10_bringer cX10_bringer 3 (some .int) 0 ΛM [.ref 0, .int so] μ (pI fun r μ2 => r = (o2i (brO w I n so)) ∧ μ2 = μ) := by
  refine Ct.go (lo := [some (.ref 0), some (.int so), none]) (by decide) (Nat.le_of_ble_eq_true rfl) rfl rfl (fun X F => ?_)
  have F : Fx X cX10_bringer RX10 0 (some .int) ΛM := F
  refine v_iconst (pc := 0) (v := nI 0) F dX10_bringer_0 (by decide) ?_
  refine v_istore_n (pc := 1) (lo' := [some (.ref _), some (.int _), some (.int _)]) F dX10_bringer_1 rfl rfl (Nat.le_of_ble_eq_true rfl) rfl ?_
  refine j_up n (fun k => (∀ j, j < k → (fun l => I l && w 7 l == so) j = false) → V X _ 2 [some (.ref 0), some (.int so), some (.int (nI k))] [] μ) (fun k hk ih hJ => ?_) 0 (Nat.zero_le _) (fun j hj => absurd hj (Nat.not_lt_zero _))
  refine v_iload_n (pc := 2) (i := 2) F dX10_bringer_2 rfl rfl ?_
  refine v_aload_n (pc := 3) (i := 0) F dX10_bringer_3 rfl rfl ?_
  refine v_getI (pc := 4) F fX10_89 dX10_bringer_4 rfl lm0 ?_
  refine v_topE (hn) ?_
  refine v_icmp_ge (pc := 7) (tgt := 37) F dX10_bringer_7 (by decide) (fun h7_1 => ?_) (fun h7_1 => ?_)
  · rw [nI_leI (by omega) (by omega)] at h7_1
    refine v_iconst (pc := 37) (v := (-1)) F dX10_bringer_37 (by decide) ?_
    refine v_ireturn (pc := 38) F dX10_bringer_38 (rfl) ?_
    refine ⟨?_, rfl⟩
    unfold brO; rw [fN_none (fun j hj => hJ j (by omega))]
    rfl
  · rw [nI_leI (by omega) (by omega)] at h7_1
    refine v_aload_n (pc := 10) (i := 0) F dX10_bringer_10 rfl rfl ?_
    refine v_getR (pc := 11) (o := 21) F fX10_71 dX10_bringer_11 rfl lm0 ?_
    refine v_topR (y := 21) rfl ?_
    refine v_iload_n (pc := 14) (i := 2) F dX10_bringer_14 rfl rfl ?_
    refine v_zaldN (pc := 15) (k0 := k) F dX10_bringer_15 (lm10_30 lm0) (rfl) (by omega) (by decide) ?_
    refine v_if_ne (pc := 16) (tgt := 31) F dX10_bringer_16 (by decide) (fun hb => ?_) (fun hb => ?_)
    · rw [hI k (by omega)] at hb
      refine v_iinc (pc := 31) (i := 2) (v := nI (k + 1)) (lo' := [some (.ref _), some (.int _), some (.int _)]) F dX10_bringer_31 rfl (j_inc _) rfl rfl ?_
      refine v_goto (pc := 34) (tgt := 2) F dX10_bringer_34 (by decide) ?_
      refine ih (by omega) (fun j hj => ?_)
      rcases Nat.lt_succ_iff_lt_or_eq.mp hj with q | q
      · exact hJ j q
      · subst q; first | (simp [hb]; done) | (simp [hc]; done)
    · rw [hI k (by omega)] at hb
      refine v_aload_n (pc := 19) (i := 0) F dX10_bringer_19 rfl rfl ?_
      refine v_getR (pc := 20) (o := 7) F fX10_28 dX10_bringer_20 rfl lm0 ?_
      refine v_topR (y := 7) rfl ?_
      refine v_iload_n (pc := 23) (i := 2) F dX10_bringer_23 rfl rfl ?_
      refine v_ialdN (pc := 24) (k0 := k) F dX10_bringer_24 (lm10_7 lm0) (rfl) (by omega) (by decide) ?_
      refine v_iload_n (pc := 25) (i := 1) F dX10_bringer_25 rfl rfl ?_
      refine v_icmp_ne (pc := 26) (tgt := 31) F dX10_bringer_26 (by decide) (fun hc => ?_) (fun hc => ?_)
      · rw [h7] at hc
        refine v_iinc (pc := 31) (i := 2) (v := nI (k + 1)) (lo' := [some (.ref _), some (.int _), some (.int _)]) F dX10_bringer_31 rfl (j_inc _) rfl rfl ?_
        refine v_goto (pc := 34) (tgt := 2) F dX10_bringer_34 (by decide) ?_
        refine ih (by omega) (fun j hj => ?_)
        rcases Nat.lt_succ_iff_lt_or_eq.mp hj with q | q
        · exact hJ j q
        · subst q; first | (simp [hb]; done) | (simp [hc]; done)
      · rw [h7] at hc
        refine v_iload_n (pc := 29) (i := 2) F dX10_bringer_29 rfl rfl ?_
        refine v_ireturn (pc := 30) F dX10_bringer_30 (rfl) ?_
        refine ⟨?_, rfl⟩
        unfold brO; rw [fN_some (k := k) (by omega) (by simp [hb, hc]) hJ]
        rfl

set_option maxRecDepth 100000 in
theorem c_X10_wishOf (l : Nat) (hl : l < 8) (n : Nat) (w : Nat → Nat → Int32) (I : Nat → Bool) (μ : j_M) (hn : μ.1 0 1 = nI n) (hn8 : n ≤ 8) (h3 : μ.1 3 = w 3) (h5 : μ.1 5 = w 5) (h7 : μ.1 7 = w 7) (hI : ∀ l, l < n → (μ.1 21 l = 0) = (I l = true)) : Ct yX10_wishOf cX10_wishOf 4 (some .int) 1 ΛM [.ref 0, .int (nI l)] μ (pI fun r μ2 => r = (nI (wsN w I n l)) ∧ μ2 = μ) := by
  refine Ct.go (lo := [some (.ref 0), some (.int (nI l)), none, none]) (by decide) (Nat.le_of_ble_eq_true rfl) rfl rfl (fun X F => ?_)
  have F : Fx X cX10_wishOf RX10 1 (some .int) ΛM := F
  refine v_aload_n (pc := 0) (i := 0) F dX10_wishOf_0 rfl rfl ?_
  refine v_aload_n (pc := 1) (i := 0) F dX10_wishOf_1 rfl rfl ?_
  refine v_getR (pc := 2) (o := 3) F fX10_16 dX10_wishOf_2 rfl lm0 ?_
  refine v_topR (y := 3) rfl ?_
  refine v_iload_n (pc := 5) (i := 1) F dX10_wishOf_5 rfl rfl ?_
  refine v_ialdN (pc := 6) (k0 := l) F dX10_wishOf_6 (lm10_3 lm0) (rfl) (by omega) (by decide) ?_
  skip
  · skip
    rw [show μ.1 3 l = w 3 l from by rw [h3]]
    refine v_callVI (pc := 7) (As := [_]) (rest := []) (c := 10) F mX10_bringer kX10_278 im_X10_bringer se_X10_bringer dX10_wishOf_7 rfl rfl (by decide) (c_X10_bringer _ n w I _ hn hn8 h3 h5 h7 hI) (by decide) rfl rfl (Nat.le_of_ble_eq_true rfl) lm0 (fun x1 μ1 hp1 => ?_)
    rw [hp1.1, hp1.2]
    refine v_istore_n (pc := 10) (lo' := [some (.ref _), some (.int _), some (.int _), _]) F dX10_wishOf_10 rfl rfl (Nat.le_of_ble_eq_true rfl) rfl ?_
    refine v_iconst (pc := 11) (v := nI 0) F dX10_wishOf_11 (by decide) ?_
    refine v_istore_n (pc := 12) (lo' := [some (.ref _), some (.int _), some (.int _), some (.int _)]) F dX10_wishOf_12 rfl rfl (Nat.le_of_ble_eq_true rfl) rfl ?_
    refine j_up 8 (fun k => V X _ 13 [some (.ref 0), some (.int (nI l)), some (.int ((o2i (wsF w I n l k)))), some (.int (nI k))] [] μ) (fun k hk ih => ?_) 0 (Nat.zero_le _)
    refine v_iload_n (pc := 13) (i := 3) F dX10_wishOf_13 rfl rfl ?_
    refine v_bipush (pc := 14) (v := nI 8) F dX10_wishOf_14 (by decide) ?_
    refine v_icmp_ge (pc := 16) (tgt := 49) F dX10_wishOf_16 (by decide) (fun h16_2 => ?_) (fun h16_2 => ?_)
    · rw [nI_leI (by omega) (by omega)] at h16_2
      have e8 : k = 8 := by omega
      subst e8
      rcases hE : wsF w I n l 8 with _ | f
      · skip
        simp only [o2i]
        refine v_iload_n (pc := 49) (i := 2) F dX10_wishOf_49 rfl rfl ?_
        refine v_iconst (pc := 50) (v := (-1)) F dX10_wishOf_50 (by decide) ?_
        refine v_icmp_ne (pc := 51) (tgt := 58) F dX10_wishOf_51 (by decide) (fun h51_3 => ?_) (fun h51_3 => ?_)
        · skip
          exact absurd rfl h51_3
        · skip
          refine v_iload_n (pc := 54) (i := 1) F dX10_wishOf_54 rfl rfl ?_
          refine v_goto (pc := 55) (tgt := 59) F dX10_wishOf_55 (by decide) ?_
          refine v_ireturn (pc := 59) F dX10_wishOf_59 (rfl) ?_
          refine ⟨?_, rfl⟩
          unfold wsN; first | rw [hE] | rw [wsF_le hE 8 (by omega)]
          rfl
      · skip
        simp only [o2i]
        have hf := (wsF_lt 8 hE).1
        refine v_iload_n (pc := 49) (i := 2) F dX10_wishOf_49 rfl rfl ?_
        refine v_iconst (pc := 50) (v := (-1)) F dX10_wishOf_50 (by decide) ?_
        refine v_icmp_ne (pc := 51) (tgt := 58) F dX10_wishOf_51 (by decide) (fun h51_4 => ?_) (fun h51_4 => ?_)
        · rw [j_nm1 (by omega)] at h51_4
          refine v_iload_n (pc := 58) (i := 2) F dX10_wishOf_58 rfl rfl ?_
          refine v_ireturn (pc := 59) F dX10_wishOf_59 (rfl) ?_
          refine ⟨?_, rfl⟩
          unfold wsN; first | rw [hE] | rw [wsF_le hE 8 (by omega)]
          rfl
        · rw [j_nm1 (by omega)] at h51_4
          exact h51_4.elim
    · rw [nI_leI (by omega) (by omega)] at h16_2
      rcases hE : wsF w I n l k with _ | f
      · skip
        simp only [o2i]
        refine v_iload_n (pc := 19) (i := 2) F dX10_wishOf_19 rfl rfl ?_
        refine v_iconst (pc := 20) (v := (-1)) F dX10_wishOf_20 (by decide) ?_
        refine v_icmp_ne (pc := 21) (tgt := 49) F dX10_wishOf_21 (by decide) (fun h21_5 => ?_) (fun h21_5 => ?_)
        · skip
          exact absurd rfl h21_5
        · skip
          refine v_aload_n (pc := 24) (i := 0) F dX10_wishOf_24 rfl rfl ?_
          refine v_getR (pc := 25) (o := 5) F fX10_22 dX10_wishOf_25 rfl lm0 ?_
          refine v_topR (y := 5) rfl ?_
          refine v_iload_n (pc := 28) (i := 1) F dX10_wishOf_28 rfl rfl ?_
          refine v_ialdN (pc := 29) (k0 := l) F dX10_wishOf_29 (lm10_5 lm0) (rfl) (by omega) (by decide) ?_
          refine v_iload_n (pc := 30) (i := 3) F dX10_wishOf_30 rfl rfl ?_
          refine v_callSI (pc := 31) (As := [_, _]) (rest := []) F mX10_in kX10_194 sm_X10_in dX10_wishOf_31 (c_X10_inN _ k (by omega) _) (by decide) rfl rfl (Nat.le_of_ble_eq_true rfl) (fun x6 μ6 hp6 => ?_)
          rw [hp6.1, hp6.2]
          refine v_if_eq (pc := 34) (tgt := 43) F dX10_wishOf_34 (by decide) (fun hb => ?_) (fun hb => ?_)
          · rw [b2i_0, h5] at hb
            refine v_iinc (pc := 43) (i := 3) (v := nI (k + 1)) (lo' := [some (.ref _), some (.int _), some (.int _), some (.int _)]) F dX10_wishOf_43 rfl (j_inc _) rfl rfl ?_
            refine v_goto (pc := 46) (tgt := 13) F dX10_wishOf_46 (by decide) ?_
            have q := ih (by omega)
            first | rw [wsF_s hE] at q | rw [wsF_t hE hb] at q | rw [wsF_f hE hb] at q
            exact q
          · rw [b2i_0, h5] at hb
            rw [Classical.not_not] at hb
            refine v_aload_n (pc := 37) (i := 0) F dX10_wishOf_37 rfl rfl ?_
            refine v_iload_n (pc := 38) (i := 3) F dX10_wishOf_38 rfl rfl ?_
            refine v_callVI (pc := 39) (As := [_]) (rest := []) (c := 10) F mX10_bringer kX10_278 im_X10_bringer se_X10_bringer dX10_wishOf_39 rfl rfl (by decide) (c_X10_bringer _ n w I _ hn hn8 h3 h5 h7 hI) (by decide) rfl rfl (Nat.le_of_ble_eq_true rfl) lm0 (fun x8 μ8 hp8 => ?_)
            rw [hp8.1, hp8.2]
            refine v_istore_n (pc := 42) (lo' := [some (.ref _), some (.int _), some (.int _), some (.int _)]) F dX10_wishOf_42 rfl rfl (Nat.le_of_ble_eq_true rfl) rfl ?_
            refine v_iinc (pc := 43) (i := 3) (v := nI (k + 1)) (lo' := [some (.ref _), some (.int _), some (.int _), some (.int _)]) F dX10_wishOf_43 rfl (j_inc _) rfl rfl ?_
            refine v_goto (pc := 46) (tgt := 13) F dX10_wishOf_46 (by decide) ?_
            have q := ih (by omega)
            first | rw [wsF_s hE] at q | rw [wsF_t hE hb] at q | rw [wsF_f hE hb] at q
            exact q
      · skip
        simp only [o2i]
        have hf := (wsF_lt k hE).1
        refine v_iload_n (pc := 19) (i := 2) F dX10_wishOf_19 rfl rfl ?_
        refine v_iconst (pc := 20) (v := (-1)) F dX10_wishOf_20 (by decide) ?_
        refine v_icmp_ne (pc := 21) (tgt := 49) F dX10_wishOf_21 (by decide) (fun h21_9 => ?_) (fun h21_9 => ?_)
        · rw [j_nm1 (by omega)] at h21_9
          refine v_iload_n (pc := 49) (i := 2) F dX10_wishOf_49 rfl rfl ?_
          refine v_iconst (pc := 50) (v := (-1)) F dX10_wishOf_50 (by decide) ?_
          refine v_icmp_ne (pc := 51) (tgt := 58) F dX10_wishOf_51 (by decide) (fun h51_10 => ?_) (fun h51_10 => ?_)
          · rw [j_nm1 (by omega)] at h51_10
            refine v_iload_n (pc := 58) (i := 2) F dX10_wishOf_58 rfl rfl ?_
            refine v_ireturn (pc := 59) F dX10_wishOf_59 (rfl) ?_
            refine ⟨?_, rfl⟩
            unfold wsN; first | rw [hE] | rw [wsF_le hE 8 (by omega)]
            rfl
          · rw [j_nm1 (by omega)] at h51_10
            exact h51_10.elim
        · rw [j_nm1 (by omega)] at h21_9
          exact h21_9.elim

set_option maxRecDepth 100000 in
theorem c_X10_isRing (l n : Nat) (wi : Nat → Nat) (J : Nat → Prop) (μ : j_M) (hn : μ.1 0 1 = nI n) (hn8 : n ≤ 8) (hwi : ∀ x, J x → x < n ∧ μ.1 20 x = nI (wi x) ∧ J (wi x)) (hl : J l) : Ct yX10_isRing cX10_isRing 4 (some .boolean) 0 ΛM [.ref 0, .int (nI l)] μ (pI fun r μ2 => r = (b2i (rgA wi l n = l)) ∧ μ2 = μ) := by
  refine Ct.go (lo := [some (.ref 0), some (.int (nI l)), none, none]) (by decide) (Nat.le_of_ble_eq_true rfl) rfl rfl (fun X F => ?_)
  have F : Fx X cX10_isRing RX10 0 (some .boolean) ΛM := F
  have hl8 := (hwi l hl).1
  refine v_aload_n (pc := 0) (i := 0) F dX10_isRing_0 rfl rfl ?_
  refine v_getR (pc := 1) (o := 20) F fX10_68 dX10_isRing_1 rfl lm0 ?_
  refine v_topR (y := 20) rfl ?_
  refine v_iload_n (pc := 4) (i := 1) F dX10_isRing_4 rfl rfl ?_
  refine v_ialdN (pc := 5) (k0 := l) F dX10_isRing_5 (lm10_29 lm0) (rfl) (by omega) (by decide) ?_
  refine v_topE (y := nI (wi l)) ((hwi l hl).2.1) ?_
  refine v_istore_n (pc := 6) (lo' := [some (.ref _), some (.int _), some (.int _), _]) F dX10_isRing_6 rfl rfl (Nat.le_of_ble_eq_true rfl) rfl ?_
  refine v_iconst (pc := 7) (v := nI 0) F dX10_isRing_7 (by decide) ?_
  refine v_istore_n (pc := 8) (lo' := [some (.ref _), some (.int _), some (.int _), some (.int _)]) F dX10_isRing_8 rfl rfl (Nat.le_of_ble_eq_true rfl) rfl ?_
  refine j_up n (fun k => (J (rgA wi l k)) → V X _ 9 [some (.ref 0), some (.int (nI l)), some (.int (nI (rgA wi l k))), some (.int (nI k))] [] μ) (fun k hk ih hJ => ?_) 0 (Nat.zero_le _) ((hwi l hl).2.2)
  refine v_iload_n (pc := 9) (i := 3) F dX10_isRing_9 rfl rfl ?_
  refine v_aload_n (pc := 10) (i := 0) F dX10_isRing_10 rfl rfl ?_
  refine v_getI (pc := 11) F fX10_89 dX10_isRing_11 rfl lm0 ?_
  refine v_topE (hn) ?_
  refine v_icmp_ge (pc := 14) (tgt := 35) F dX10_isRing_14 (by decide) (fun h14_1 => ?_) (fun h14_1 => ?_)
  · rw [nI_leI (by omega) (by omega)] at h14_1
    have hrb2 := (hwi _ hJ).1
    refine v_iload_n (pc := 35) (i := 2) F dX10_isRing_35 rfl rfl ?_
    refine v_iload_n (pc := 36) (i := 1) F dX10_isRing_36 rfl rfl ?_
    refine v_icmp_ne (pc := 37) (tgt := 44) F dX10_isRing_37 (by decide) (fun hz2 => ?_) (fun hz2 => ?_)
    · rw [nI_eq (by omega) (by omega)] at hz2
      refine v_iconst (pc := 44) (v := nI 0) F dX10_isRing_44 (by decide) ?_
      refine v_ireturn (pc := 45) F dX10_isRing_45 (rfl) ?_
      refine ⟨?_, rfl⟩
      first | (rw [b2i_t (rgA_le hz2 (by omega))]; rfl) | (have e : k = n := by omega); subst e; rw [b2i_f hz2]; rfl
    · rw [nI_eq (by omega) (by omega)] at hz2
      refine v_iconst (pc := 40) (v := nI 1) F dX10_isRing_40 (by decide) ?_
      refine v_goto (pc := 41) (tgt := 45) F dX10_isRing_41 (by decide) ?_
      refine v_ireturn (pc := 45) F dX10_isRing_45 (rfl) ?_
      refine ⟨?_, rfl⟩
      first | (rw [b2i_t (rgA_le hz2 (by omega))]; rfl) | (have e : k = n := by omega); subst e; rw [b2i_f hz2]; rfl
  · rw [nI_leI (by omega) (by omega)] at h14_1
    have hrb := (hwi _ hJ).1
    refine v_iload_n (pc := 17) (i := 2) F dX10_isRing_17 rfl rfl ?_
    refine v_iload_n (pc := 18) (i := 1) F dX10_isRing_18 rfl rfl ?_
    refine v_icmp_eq (pc := 19) (tgt := 35) F dX10_isRing_19 (by decide) (fun hz => ?_) (fun hz => ?_)
    · rw [nI_eq (by omega) (by omega)] at hz
      have hrb2 := (hwi _ hJ).1
      refine v_iload_n (pc := 35) (i := 2) F dX10_isRing_35 rfl rfl ?_
      refine v_iload_n (pc := 36) (i := 1) F dX10_isRing_36 rfl rfl ?_
      refine v_icmp_ne (pc := 37) (tgt := 44) F dX10_isRing_37 (by decide) (fun hz2 => ?_) (fun hz2 => ?_)
      · rw [nI_eq (by omega) (by omega)] at hz2
        refine v_iconst (pc := 44) (v := nI 0) F dX10_isRing_44 (by decide) ?_
        refine v_ireturn (pc := 45) F dX10_isRing_45 (rfl) ?_
        refine ⟨?_, rfl⟩
        first | (rw [b2i_t (rgA_le hz2 (by omega))]; rfl) | (have e : k = n := by omega); subst e; rw [b2i_f hz2]; rfl
      · rw [nI_eq (by omega) (by omega)] at hz2
        refine v_iconst (pc := 40) (v := nI 1) F dX10_isRing_40 (by decide) ?_
        refine v_goto (pc := 41) (tgt := 45) F dX10_isRing_41 (by decide) ?_
        refine v_ireturn (pc := 45) F dX10_isRing_45 (rfl) ?_
        refine ⟨?_, rfl⟩
        first | (rw [b2i_t (rgA_le hz2 (by omega))]; rfl) | (have e : k = n := by omega); subst e; rw [b2i_f hz2]; rfl
    · rw [nI_eq (by omega) (by omega)] at hz
      refine v_aload_n (pc := 22) (i := 0) F dX10_isRing_22 rfl rfl ?_
      refine v_getR (pc := 23) (o := 20) F fX10_68 dX10_isRing_23 rfl lm0 ?_
      refine v_topR (y := 20) rfl ?_
      refine v_iload_n (pc := 26) (i := 2) F dX10_isRing_26 rfl rfl ?_
      refine v_ialdN (pc := 27) (k0 := rgA wi l k) F dX10_isRing_27 (lm10_29 lm0) (rfl) (by omega) (by decide) ?_
      refine v_topE (y := nI (wi (rgA wi l k))) ((hwi _ hJ).2.1) ?_
      refine v_istore_n (pc := 28) (lo' := [some (.ref _), some (.int _), some (.int _), some (.int _)]) F dX10_isRing_28 rfl rfl (Nat.le_of_ble_eq_true rfl) rfl ?_
      refine v_iinc (pc := 29) (i := 3) (v := nI (k + 1)) (lo' := [some (.ref _), some (.int _), some (.int _), some (.int _)]) F dX10_isRing_29 rfl (j_inc _) rfl rfl ?_
      refine v_goto (pc := 32) (tgt := 9) F dX10_isRing_32 (by decide) ?_
      have q := ih (by omega)
      rw [rgA_f hz] at q
      exact q (hwi _ hJ).2.2
