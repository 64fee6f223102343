/-! the reference's public methods: what is there, told evenings, sets that leave just these -/
def fN (P : Nat → Bool) (n : Nat) : Option Nat := (List.range n).find? P
theorem fN_none {P : Nat → Bool} {n : Nat} (h : ∀ j, j < n → P j = false) : fN P n = none := find_range_none h
theorem fN_some {P : Nat → Bool} {n k : Nat} (hk : k < n) (hp : P k = true) (h : ∀ j, j < k → P j = false) : fN P n = some k := find_range_some hk hp h
theorem fN_spec {P : Nat → Bool} {n k : Nat} (h : fN P n = some k) : k < n ∧ P k = true ∧ ∀ j, j < k → P j = false := by
  have h1 := List.find?_range_eq_some.mp h
  refine ⟨List.mem_range.mp h1.2.1, h1.1, fun j hj => ?_⟩
  have := h1.2.2 j hj
  simpa using this
theorem fN_none_iff {P : Nat → Bool} {n : Nat} : fN P n = none ↔ ∀ j, j < n → P j = false := by
  refine ⟨fun h j hj => ?_, fN_none⟩
  have := List.find?_eq_none.mp h j (List.mem_range.mpr hj)
  simpa using this
abbrev wnS (t : Nat → Int32) (s : Nat) : Nat := cP (fun p => t p == nI s)
def s_places (μ : j_M) : Int32 × j_M := (lfB (μ.1 1), μ)
def s_sorts (so what : Int32) (μ : j_M) : Int32 × j_M := if inQ 8 so = true then (if inQ 3 what = true then (if what = 0 then (nI (cP (fun p => μ.1 1 p == so)), μ) else if what = 1 then (nI (cK (fun l => likB (μ.1 3 l) (μ.1 5 l) so) (nn μ)), μ) else (nI (cK (fun l => μ.1 3 l == so) (nn μ)), μ)) else rj (-2) 2 μ) else rj (-2) 2 μ
def rrO (t : Nat → Int32) (wh : Nat) : Nat → Option Nat
  | 0 => none
  | s + 1 => match rrO t wh s with
    | none => if 0 < wnS t s then some s else none
    | some f => if 0 < wnS t s ∧ (if wh = 0 then wnS t s < wnS t f else wnS t f < wnS t s) then some s else some f
theorem rrO_lt {t : Nat → Int32} {wh : Nat} : ∀ s f, rrO t wh s = some f → f < s := by
  intro s
  induction s with
  | zero => intro f h; cases h
  | succ s ih =>
    intro f h
    simp only [rrO] at h
    rcases e : rrO t wh s with _ | g
    · rw [e] at h
      simp only [] at h
      by_cases hp : 0 < wnS t s
      · rw [if_pos hp] at h; have := Option.some.inj h; omega
      · rw [if_neg hp] at h; exact absurd h (by simp)
    · rw [e] at h
      simp only [] at h
      have hg := ih g e
      by_cases hp : 0 < wnS t s ∧ (if wh = 0 then wnS t s < wnS t g else wnS t g < wnS t s)
      · rw [if_pos hp] at h; have := Option.some.inj h; omega
      · rw [if_neg hp] at h; have := Option.some.inj h; omega
theorem rrO_n0 {t : Nat → Int32} {wh s : Nat} (e : rrO t wh s = none) (h : wnS t s = 0) : rrO t wh (s + 1) = none := by
  simp only [rrO, e]; rw [if_neg (by omega)]
theorem rrO_n1 {t : Nat → Int32} {wh s : Nat} (e : rrO t wh s = none) (h : ¬ wnS t s = 0) : rrO t wh (s + 1) = some s := by
  simp only [rrO, e]; rw [if_pos (by omega)]
theorem rrO_s0 {t : Nat → Int32} {wh s f : Nat} (e : rrO t wh s = some f) (h : wnS t s = 0) : rrO t wh (s + 1) = some f := by
  simp only [rrO, e]; rw [if_neg (by rintro ⟨z1, z2⟩; omega)]
theorem rrO_sa {t : Nat → Int32} {wh s f : Nat} (e : rrO t wh s = some f) (h : ¬ wnS t s = 0) (hw : wh = 0) (hc : wnS t f ≤ wnS t s) : rrO t wh (s + 1) = some f := by
  simp only [rrO, e]; rw [if_neg (by rintro ⟨z1, z2⟩; rw [if_pos hw] at z2; omega)]
theorem rrO_sb {t : Nat → Int32} {wh s f : Nat} (e : rrO t wh s = some f) (h : ¬ wnS t s = 0) (hw : wh = 0) (hc : ¬ wnS t f ≤ wnS t s) : rrO t wh (s + 1) = some s := by
  simp only [rrO, e]; rw [if_pos ⟨by omega, by rw [if_pos hw]; omega⟩]
theorem rrO_sc {t : Nat → Int32} {wh s f : Nat} (e : rrO t wh s = some f) (h : ¬ wnS t s = 0) (hw : ¬ wh = 0) (hc : wnS t s ≤ wnS t f) : rrO t wh (s + 1) = some f := by
  simp only [rrO, e]; rw [if_neg (by rintro ⟨z1, z2⟩; rw [if_neg hw] at z2; omega)]
theorem rrO_sd {t : Nat → Int32} {wh s f : Nat} (e : rrO t wh s = some f) (h : ¬ wnS t s = 0) (hw : ¬ wh = 0) (hc : ¬ wnS t s ≤ wnS t f) : rrO t wh (s + 1) = some s := by
  simp only [rrO, e]; rw [if_pos ⟨by omega, by rw [if_neg hw]; omega⟩]
def s_rare (what : Int32) (μ : j_M) : Int32 × j_M := if inQ 2 what = true then (match rrO (μ.1 1) (ix what) 8 with
  | none => rj (-5) 5 μ
  | some f => (nI f, μ)) else rj (-2) 2 μ
def hsK (h : Nat → Int32) (l : Nat) : Nat → Int32
  | 0 => 0
  | s + 1 => hsK h l s + h (8 * l + s)
def rkV (w : Nat → Nat → Int32) (wh l : Nat) : Int32 := if wh = 0 then - w 4 l else if wh = 1 then w 4 l else hsK (w 8) l 8
def frO (w : Nat → Nat → Int32) (wh : Nat) : Nat → Option Nat
  | 0 => none
  | l + 1 => match frO w wh l with
    | none => some l
    | some f => if rkV w wh f < rkV w wh l then some l else some f
theorem frO_lt {w : Nat → Nat → Int32} {wh : Nat} : ∀ s f, frO w wh s = some f → f < s := by
  intro s
  induction s with
  | zero => intro f h; cases h
  | succ s ih =>
    intro f h
    simp only [frO] at h
    rcases e : frO w wh s with _ | g
    · rw [e] at h
      simp only [] at h
      have := Option.some.inj h; omega
    · rw [e] at h
      simp only [] at h
      have hg := ih g e
      by_cases hp : rkV w wh g < rkV w wh s
      · rw [if_pos hp] at h; have := Option.some.inj h; omega
      · rw [if_neg hp] at h; have := Option.some.inj h; omega
theorem frO_n {w : Nat → Nat → Int32} {wh s : Nat} (e : frO w wh s = none) : frO w wh (s + 1) = some s := by simp only [frO, e]
theorem frO_t {w : Nat → Nat → Int32} {wh s f : Nat} (e : frO w wh s = some f) (h : rkV w wh f < rkV w wh s) : frO w wh (s + 1) = some s := by simp only [frO, e, h, ↓reduceIte]
theorem frO_f {w : Nat → Nat → Int32} {wh s f : Nat} (e : frO w wh s = some f) (h : ¬ rkV w wh f < rkV w wh s) : frO w wh (s + 1) = some f := by simp only [frO, e, h, ↓reduceIte]
def s_first (what : Int32) (μ : j_M) : Int32 × j_M := if inQ 3 what = true then (match frO μ.1 (ix what) (nn μ) with
  | none => rj (-5) 5 μ
  | some f => (nI f, μ)) else rj (-2) 2 μ

set_option maxRecDepth 100000 in
theorem c_X10_places  (μ : j_M) (hM : MI μ) : Ct yX10_places cX10_places 3 (some .int) 0 ΛM [.ref 0] μ (pI fun r μ2 => r = (s_places μ).1 ∧ Fm PS (s_places μ).2 μ2) := by
  refine Ct.go (lo := [some (.ref 0), none, none]) (by decide) (Nat.le_of_ble_eq_true rfl) rfl rfl (fun X F => ?_)
  have F : Fx X cX10_places RX10 0 (some .int) ΛM := F
  obtain ⟨n, hW, hsh, htp, him⟩ := id hM
  have hn := hW.1
  have hn8 := hW.2.1
  have hnn := nn_eq hn hn8
  have ho := hW.own
  have hrw : RW μ.1 n μ := RW.self hn
  have hpw := j_pw hn8
  refine v_iconst (pc := 0) (v := nI 0) F dX10_places_0 (by decide) ?_
  refine v_istore_n (pc := 1) (lo' := [some (.ref _), some (.int _), _]) F dX10_places_1 rfl rfl (Nat.le_of_ble_eq_true rfl) rfl ?_
  refine v_iconst (pc := 2) (v := nI 0) F dX10_places_2 (by decide) ?_
  refine v_istore_n (pc := 3) (lo' := [some (.ref _), some (.int _), some (.int _)]) F dX10_places_3 rfl rfl (Nat.le_of_ble_eq_true rfl) rfl ?_
  refine j_up 12 (fun k => V X _ 4 [some (.ref 0), some (.int (bK (fun p => !(μ.1 1 p == -1)) k)), some (.int (nI k))] [] μ) (fun k hk ih => ?_) 0 (Nat.zero_le _)
  refine v_iload_n (pc := 4) (i := 2) F dX10_places_4 rfl rfl ?_
  refine v_bipush (pc := 5) (v := nI 12) F dX10_places_5 (by decide) ?_
  refine v_icmp_ge (pc := 7) (tgt := 32) F dX10_places_7 (by decide) (fun h7_1 => ?_) (fun h7_1 => ?_)
  · rw [nI_leI (by omega) (by omega)] at h7_1
    refine v_iload_n (pc := 32) (i := 1) F dX10_places_32 rfl rfl ?_
    refine v_ireturn (pc := 33) F dX10_places_33 (rfl) ?_
    have e : k = 12 := by omega
    subst e
    exact ⟨rfl, Fm.rf⟩
  · rw [nI_leI (by omega) (by omega)] at h7_1
    refine v_aload_n (pc := 10) (i := 0) F dX10_places_10 rfl rfl ?_
    refine v_getR (pc := 11) (o := 1) F fX10_9 dX10_places_11 rfl lm0 ?_
    refine v_topR (y := 1) rfl ?_
    refine v_iload_n (pc := 14) (i := 2) F dX10_places_14 rfl rfl ?_
    refine v_ialdN (pc := 15) (k0 := k) F dX10_places_15 (lm10_0 lm0) (rfl) (by omega) (by decide) ?_
    refine v_iconst (pc := 16) (v := (-1)) F dX10_places_16 (by decide) ?_
    refine v_icmp_eq (pc := 17) (tgt := 26) F dX10_places_17 (by decide) (fun hc => ?_) (fun hc => ?_)
    · skip
      refine v_iinc (pc := 26) (i := 2) (v := nI (k + 1)) (lo' := [some (.ref _), some (.int _), some (.int _)]) F dX10_places_26 rfl (j_inc _) rfl rfl ?_
      refine v_goto (pc := 29) (tgt := 4) F dX10_places_29 (by decide) ?_
      have q := ih (by omega)
      first | (rw [bK_t (k := k) (by simpa using hc)] at q; exact q) | (rw [bK_f (k := k) (by simpa using hc)] at q; exact q)
    · skip
      refine v_iload_n (pc := 20) (i := 1) F dX10_places_20 rfl rfl ?_
      refine v_iconst (pc := 21) (v := nI 1) F dX10_places_21 (by decide) ?_
      refine v_iload_n (pc := 22) (i := 2) F dX10_places_22 rfl rfl ?_
      refine v_ishl (pc := 23) F dX10_places_23 ?_
      refine v_ior (pc := 24) F dX10_places_24 ?_
      refine v_istore_n (pc := 25) (lo' := [some (.ref _), some (.int _), some (.int _)]) F dX10_places_25 rfl rfl (Nat.le_of_ble_eq_true rfl) rfl ?_
      refine v_iinc (pc := 26) (i := 2) (v := nI (k + 1)) (lo' := [some (.ref _), some (.int _), some (.int _)]) F dX10_places_26 rfl (j_inc _) rfl rfl ?_
      refine v_goto (pc := 29) (tgt := 4) F dX10_places_29 (by decide) ?_
      have q := ih (by omega)
      first | (rw [bK_t (k := k) (by simpa using hc)] at q; exact q) | (rw [bK_f (k := k) (by simpa using hc)] at q; exact q)

set_option maxRecDepth 100000 in
theorem c_X10_inWindow (s : Int32) (μ : j_M) : Ct yX10_inWindow cX10_inWindow 4 (some .int) 0 ΛM [.ref 0, .int s] μ (pI fun r μ2 => r = (nI (cP (fun p => μ.1 1 p == s))) ∧ μ2 = μ) := by
  refine Ct.go (lo := [some (.ref 0), some (.int s), none, none]) (by decide) (Nat.le_of_ble_eq_true rfl) rfl rfl (fun X F => ?_)
  have F : Fx X cX10_inWindow RX10 0 (some .int) ΛM := F
  refine v_iconst (pc := 0) (v := nI 0) F dX10_inWindow_0 (by decide) ?_
  refine v_istore_n (pc := 1) (lo' := [some (.ref _), some (.int _), some (.int _), _]) F dX10_inWindow_1 rfl rfl (Nat.le_of_ble_eq_true rfl) rfl ?_
  refine v_iconst (pc := 2) (v := nI 0) F dX10_inWindow_2 (by decide) ?_
  refine v_istore_n (pc := 3) (lo' := [some (.ref _), some (.int _), some (.int _), some (.int _)]) F dX10_inWindow_3 rfl rfl (Nat.le_of_ble_eq_true rfl) rfl ?_
  refine j_up 12 (fun k => V X _ 4 [some (.ref 0), some (.int s), some (.int (nI (cK (fun p => μ.1 1 p == s) k))), some (.int (nI k))] [] μ) (fun k hk ih => ?_) 0 (Nat.zero_le _)
  refine v_iload_n (pc := 4) (i := 3) F dX10_inWindow_4 rfl rfl ?_
  refine v_bipush (pc := 5) (v := nI 12) F dX10_inWindow_5 (by decide) ?_
  refine v_icmp_ge (pc := 7) (tgt := 29) F dX10_inWindow_7 (by decide) (fun h7_1 => ?_) (fun h7_1 => ?_)
  · rw [nI_leI (by omega) (by omega)] at h7_1
    refine v_iload_n (pc := 29) (i := 2) F dX10_inWindow_29 rfl rfl ?_
    refine v_ireturn (pc := 30) F dX10_inWindow_30 (rfl) ?_
    have e : k = 12 := by omega
    subst e
    exact ⟨rfl, rfl⟩
  · rw [nI_leI (by omega) (by omega)] at h7_1
    refine v_aload_n (pc := 10) (i := 0) F dX10_inWindow_10 rfl rfl ?_
    refine v_getR (pc := 11) (o := 1) F fX10_9 dX10_inWindow_11 rfl lm0 ?_
    refine v_topR (y := 1) rfl ?_
    refine v_iload_n (pc := 14) (i := 3) F dX10_inWindow_14 rfl rfl ?_
    refine v_ialdN (pc := 15) (k0 := k) F dX10_inWindow_15 (lm10_0 lm0) (rfl) (by omega) (by decide) ?_
    refine v_iload_n (pc := 16) (i := 1) F dX10_inWindow_16 rfl rfl ?_
    refine v_icmp_ne (pc := 17) (tgt := 23) F dX10_inWindow_17 (by decide) (fun hc => ?_) (fun hc => ?_)
    · skip
      refine v_iinc (pc := 23) (i := 3) (v := nI (k + 1)) (lo' := [some (.ref _), some (.int _), some (.int _), some (.int _)]) F dX10_inWindow_23 rfl (j_inc _) rfl rfl ?_
      refine v_goto (pc := 26) (tgt := 4) F dX10_inWindow_26 (by decide) ?_
      have q := ih (by omega)
      simp only [cK, beq_iff_eq, hc, ↓reduceIte] at q
      exact q
    · skip
      refine v_iinc (pc := 20) (i := 2) (v := nI (cK (fun p => μ.1 1 p == s) k + 1)) (lo' := [some (.ref _), some (.int _), some (.int _), some (.int _)]) F dX10_inWindow_20 rfl (j_inc _) rfl rfl ?_
      refine v_iinc (pc := 23) (i := 3) (v := nI (k + 1)) (lo' := [some (.ref _), some (.int _), some (.int _), some (.int _)]) F dX10_inWindow_23 rfl (j_inc _) rfl rfl ?_
      refine v_goto (pc := 26) (tgt := 4) F dX10_inWindow_26 (by decide) ?_
      have q := ih (by omega)
      simp only [cK, beq_iff_eq, hc, ↓reduceIte] at q
      exact q

set_option maxRecDepth 100000 in
theorem c_X10_sorts (so what : Int32) (μ : j_M) (hM : MI μ) : Ct yX10_sorts cX10_sorts 5 (some .int) 2 ΛM [.ref 0, .int so, .int what] μ (pI fun r μ2 => r = (s_sorts so what μ).1 ∧ Fm PS (s_sorts so what μ).2 μ2) := by
  refine Ct.go (lo := [some (.ref 0), some (.int so), some (.int what), none, none]) (by decide) (Nat.le_of_ble_eq_true rfl) rfl rfl (fun X F => ?_)
  have F : Fx X cX10_sorts RX10 2 (some .int) ΛM := F
  obtain ⟨n, hW, hsh, htp, him⟩ := id hM
  have hn := hW.1
  have hn8 := hW.2.1
  have hnn := nn_eq hn hn8
  have ho := hW.own
  have hrw : RW μ.1 n μ := RW.self hn
  have hpw := j_pw hn8
  refine v_iload_n (pc := 0) (i := 1) F dX10_sorts_0 rfl rfl ?_
  refine v_callSI (pc := 1) (As := [_]) (rest := []) F mX10_isSort kX10_124 sm_X10_isSort dX10_sorts_1 (c_X10_isSort _ _) (by decide) rfl rfl (Nat.le_of_ble_eq_true rfl) (fun x1 μ1 hp1 => ?_)
  rw [hp1.1, hp1.2]
  refine v_if_eq (pc := 4) (tgt := 16) F dX10_sorts_4 (by decide) (fun h4_2 => ?_) (fun h4_2 => ?_)
  · rw [b2i_0] at h4_2
    refine v_aload_n (pc := 16) (i := 0) F dX10_sorts_16 rfl rfl ?_
    refine v_bipush (pc := 17) (v := (-2)) F dX10_sorts_17 (by decide) ?_
    refine v_callVI (pc := 19) (As := [_]) (rest := []) (c := 10) F mX10_no kX10_96 im_X10_no se_X10_no dX10_sorts_19 rfl rfl (by decide) (c_X10_no (-2) 2 (by decide) (by decide) _) (by decide) rfl rfl (Nat.le_of_ble_eq_true rfl) lm0 (fun x3 μ3 hp3 => ?_)
    rw [hp3.1, hp3.2]
    refine v_ireturn (pc := 22) F dX10_sorts_22 (rfl) ?_
    simp only [s_sorts, rj, hnn, h4_2, ↓reduceIte]
    refine ⟨?_, ?_⟩ <;> first | exact trivial | exact rfl | exact Fm.rf
  · rw [b2i_0] at h4_2
    rw [Classical.not_not] at h4_2
    obtain ⟨k_so, hk_so, he_so⟩ := inR_of (by decide) h4_2
    subst he_so
    have ek_so : ix (nI k_so) = k_so := nI_clamp (by omega)
    refine v_iload_n (pc := 7) (i := 2) F dX10_sorts_7 rfl rfl ?_
    refine v_iconst (pc := 8) (v := nI 0) F dX10_sorts_8 (by decide) ?_
    refine v_iconst (pc := 9) (v := nI 2) F dX10_sorts_9 (by decide) ?_
    refine v_callSI (pc := 10) (As := [_, _, _]) (rest := []) F mX10_within kX10_85 sm_X10_within dX10_sorts_10 (c_X10_withinR _ 2 3 rfl (by decide) _) (by decide) rfl rfl (Nat.le_of_ble_eq_true rfl) (fun x4 μ4 hp4 => ?_)
    rw [hp4.1, hp4.2]
    refine v_if_ne (pc := 13) (tgt := 23) F dX10_sorts_13 (by decide) (fun h13_5 => ?_) (fun h13_5 => ?_)
    · rw [b2i_0] at h13_5
      rw [Classical.not_not] at h13_5
      obtain ⟨k_what, hk_what, he_what⟩ := inR_of (by decide) h13_5
      subst he_what
      have ek_what : ix (nI k_what) = k_what := nI_clamp (by omega)
      obtain rfl | rfl | rfl : k_what = 0 ∨ k_what = 1 ∨ k_what = 2 := by omega
      · skip
        refine v_iload_n (pc := 23) (i := 2) F dX10_sorts_23 rfl rfl ?_
        refine v_if_ne (pc := 24) (tgt := 33) F dX10_sorts_24 (by decide) (fun h24_6 => ?_) (fun h24_6 => ?_)
        · rw [j_eq0 (by omega)] at h24_6
          exact absurd h24_6 (by decide)
        · rw [j_eq0 (by omega)] at h24_6
          refine v_aload_n (pc := 27) (i := 0) F dX10_sorts_27 rfl rfl ?_
          refine v_iload_n (pc := 28) (i := 1) F dX10_sorts_28 rfl rfl ?_
          refine v_callVI (pc := 29) (As := [_]) (rest := []) (c := 10) F mX10_inWindow kX10_272 im_X10_inWindow se_X10_inWindow dX10_sorts_29 rfl rfl (by decide) (c_X10_inWindow _ _) (by decide) rfl rfl (Nat.le_of_ble_eq_true rfl) lm0 (fun x7 μ7 hp7 => ?_)
          rw [hp7.1, hp7.2]
          refine v_ireturn (pc := 32) F dX10_sorts_32 (rfl) ?_
          simp only [s_sorts, rj, hnn, h4_2, ek_so, h13_5, ek_what, h24_6, ↓reduceIte]
          refine ⟨?_, ?_⟩ <;> first | exact trivial | exact rfl | exact Fm.rf
      · skip
        refine v_iload_n (pc := 23) (i := 2) F dX10_sorts_23 rfl rfl ?_
        refine v_if_ne (pc := 24) (tgt := 33) F dX10_sorts_24 (by decide) (fun h24_8 => ?_) (fun h24_8 => ?_)
        · rw [j_eq0 (by omega)] at h24_8
          refine v_iconst (pc := 33) (v := nI 0) F dX10_sorts_33 (by decide) ?_
          refine v_istore_n (pc := 34) (lo' := [some (.ref _), some (.int _), some (.int _), some (.int _), _]) F dX10_sorts_34 rfl rfl (Nat.le_of_ble_eq_true rfl) rfl ?_
          refine v_iconst (pc := 35) (v := nI 0) F dX10_sorts_35 (by decide) ?_
          refine v_istore (pc := 36) (lo' := [some (.ref _), some (.int _), some (.int _), some (.int _), some (.int _)]) F dX10_sorts_36 rfl (Nat.le_of_ble_eq_true rfl) rfl ?_
          refine j_up n (fun k => V X _ 38 [some (.ref 0), some (.int (nI k_so)), some (.int (nI 1)), some (.int (nI (cK (fun l => likB (μ.1 3 l) (μ.1 5 l) (nI k_so)) k))), some (.int (nI k))] [] μ) (fun k hk ih => ?_) 0 (Nat.zero_le _)
          refine v_iload (pc := 38) (i := 4) F dX10_sorts_38 rfl ?_
          refine v_aload_n (pc := 40) (i := 0) F dX10_sorts_40 rfl rfl ?_
          refine v_getI (pc := 41) F fX10_89 dX10_sorts_41 rfl lm0 ?_
          refine v_topE (hn) ?_
          refine v_icmp_ge (pc := 44) (tgt := 85) F dX10_sorts_44 (by decide) (fun h44_9 => ?_) (fun h44_9 => ?_)
          · rw [nI_leI (by omega) (by omega)] at h44_9
            refine v_iload_n (pc := 85) (i := 3) F dX10_sorts_85 rfl rfl ?_
            refine v_ireturn (pc := 86) F dX10_sorts_86 (rfl) ?_
            have e : k = n := by omega
            subst e
            simp only [s_sorts, rj, hnn, h4_2, ek_so, h13_5, ek_what, h24_8, h44_9, ↓reduceIte]
            refine ⟨?_, ?_⟩ <;> first | exact trivial | exact rfl | exact Fm.rf
          · rw [nI_leI (by omega) (by omega)] at h44_9
            refine v_iload_n (pc := 47) (i := 2) F dX10_sorts_47 rfl rfl ?_
            refine v_iconst (pc := 48) (v := nI 1) F dX10_sorts_48 (by decide) ?_
            refine v_icmp_ne (pc := 49) (tgt := 65) F dX10_sorts_49 (by decide) (fun h49_10 => ?_) (fun h49_10 => ?_)
            · rw [nI_eq (by omega) (by omega)] at h49_10
              exact absurd h49_10 (by decide)
            · rw [nI_eq (by omega) (by omega)] at h49_10
              refine v_aload_n (pc := 52) (i := 0) F dX10_sorts_52 rfl rfl ?_
              refine v_iload (pc := 53) (i := 4) F dX10_sorts_53 rfl ?_
              refine v_iload_n (pc := 55) (i := 1) F dX10_sorts_55 rfl rfl ?_
              refine v_callVI (pc := 56) (As := [_, _]) (rest := []) (c := 10) F mX10_doesLike kX10_200 im_X10_doesLike se_X10_doesLike dX10_sorts_56 rfl rfl (by decide) (c_X10_doesLike k (by omega) _ _) (by decide) rfl rfl (Nat.le_of_ble_eq_true rfl) lm0 (fun x11 μ11 hp11 => ?_)
              rw [hp11.1, hp11.2]
              refine v_if_eq (pc := 59) (tgt := 79) F dX10_sorts_59 (by decide) (fun hc => ?_) (fun hc => ?_)
              · rw [b2i_0] at hc
                refine v_iinc (pc := 79) (i := 4) (v := nI (k + 1)) (lo' := [some (.ref _), some (.int _), some (.int _), some (.int _), some (.int _)]) F dX10_sorts_79 rfl (j_inc _) rfl rfl ?_
                refine v_goto (pc := 82) (tgt := 38) F dX10_sorts_82 (by decide) ?_
                have q := ih (by omega)
                first | (rw [cK_t (k := k) (by simpa using hc)] at q; exact q) | (rw [cK_f (k := k) (by simpa using hc)] at q; exact q)
              · rw [b2i_0] at hc
                rw [Classical.not_not] at hc
                refine v_goto (pc := 62) (tgt := 76) F dX10_sorts_62 (by decide) ?_
                refine v_iinc (pc := 76) (i := 3) (v := nI (cK (fun l => likB (μ.1 3 l) (μ.1 5 l) (nI k_so)) k + 1)) (lo' := [some (.ref _), some (.int _), some (.int _), some (.int _), some (.int _)]) F dX10_sorts_76 rfl (j_inc _) rfl rfl ?_
                refine v_iinc (pc := 79) (i := 4) (v := nI (k + 1)) (lo' := [some (.ref _), some (.int _), some (.int _), some (.int _), some (.int _)]) F dX10_sorts_79 rfl (j_inc _) rfl rfl ?_
                refine v_goto (pc := 82) (tgt := 38) F dX10_sorts_82 (by decide) ?_
                have q := ih (by omega)
                first | (rw [cK_t (k := k) (by simpa using hc)] at q; exact q) | (rw [cK_f (k := k) (by simpa using hc)] at q; exact q)
        · rw [j_eq0 (by omega)] at h24_8
          exact absurd h24_8 (by decide)
      · skip
        refine v_iload_n (pc := 23) (i := 2) F dX10_sorts_23 rfl rfl ?_
        refine v_if_ne (pc := 24) (tgt := 33) F dX10_sorts_24 (by decide) (fun h24_13 => ?_) (fun h24_13 => ?_)
        · rw [j_eq0 (by omega)] at h24_13
          refine v_iconst (pc := 33) (v := nI 0) F dX10_sorts_33 (by decide) ?_
          refine v_istore_n (pc := 34) (lo' := [some (.ref _), some (.int _), some (.int _), some (.int _), _]) F dX10_sorts_34 rfl rfl (Nat.le_of_ble_eq_true rfl) rfl ?_
          refine v_iconst (pc := 35) (v := nI 0) F dX10_sorts_35 (by decide) ?_
          refine v_istore (pc := 36) (lo' := [some (.ref _), some (.int _), some (.int _), some (.int _), some (.int _)]) F dX10_sorts_36 rfl (Nat.le_of_ble_eq_true rfl) rfl ?_
          refine j_up n (fun k => V X _ 38 [some (.ref 0), some (.int (nI k_so)), some (.int (nI 2)), some (.int (nI (cK (fun l => μ.1 3 l == nI k_so) k))), some (.int (nI k))] [] μ) (fun k hk ih => ?_) 0 (Nat.zero_le _)
          refine v_iload (pc := 38) (i := 4) F dX10_sorts_38 rfl ?_
          refine v_aload_n (pc := 40) (i := 0) F dX10_sorts_40 rfl rfl ?_
          refine v_getI (pc := 41) F fX10_89 dX10_sorts_41 rfl lm0 ?_
          refine v_topE (hn) ?_
          refine v_icmp_ge (pc := 44) (tgt := 85) F dX10_sorts_44 (by decide) (fun h44_14 => ?_) (fun h44_14 => ?_)
          · rw [nI_leI (by omega) (by omega)] at h44_14
            refine v_iload_n (pc := 85) (i := 3) F dX10_sorts_85 rfl rfl ?_
            refine v_ireturn (pc := 86) F dX10_sorts_86 (rfl) ?_
            have e : k = n := by omega
            subst e
            simp only [s_sorts, rj, hnn, h4_2, ek_so, h13_5, ek_what, h24_13, h44_14, ↓reduceIte]
            refine ⟨?_, ?_⟩ <;> first | exact trivial | exact rfl | exact Fm.rf
          · rw [nI_leI (by omega) (by omega)] at h44_14
            refine v_iload_n (pc := 47) (i := 2) F dX10_sorts_47 rfl rfl ?_
            refine v_iconst (pc := 48) (v := nI 1) F dX10_sorts_48 (by decide) ?_
            refine v_icmp_ne (pc := 49) (tgt := 65) F dX10_sorts_49 (by decide) (fun h49_15 => ?_) (fun h49_15 => ?_)
            · rw [nI_eq (by omega) (by omega)] at h49_15
              refine v_aload_n (pc := 65) (i := 0) F dX10_sorts_65 rfl rfl ?_
              refine v_getR (pc := 66) (o := 3) F fX10_16 dX10_sorts_66 rfl lm0 ?_
              refine v_topR (y := 3) rfl ?_
              refine v_iload (pc := 69) (i := 4) F dX10_sorts_69 rfl ?_
              refine v_ialdN (pc := 71) (k0 := k) F dX10_sorts_71 (lm10_3 lm0) (rfl) (by omega) (by decide) ?_
              refine v_iload_n (pc := 72) (i := 1) F dX10_sorts_72 rfl rfl ?_
              refine v_icmp_ne (pc := 73) (tgt := 79) F dX10_sorts_73 (by decide) (fun hc => ?_) (fun hc => ?_)
              · skip
                refine v_iinc (pc := 79) (i := 4) (v := nI (k + 1)) (lo' := [some (.ref _), some (.int _), some (.int _), some (.int _), some (.int _)]) F dX10_sorts_79 rfl (j_inc _) rfl rfl ?_
                refine v_goto (pc := 82) (tgt := 38) F dX10_sorts_82 (by decide) ?_
                have q := ih (by omega)
                first | (rw [cK_t (k := k) (by simpa using hc)] at q; exact q) | (rw [cK_f (k := k) (by simpa using hc)] at q; exact q)
              · skip
                refine v_iinc (pc := 76) (i := 3) (v := nI (cK (fun l => μ.1 3 l == nI k_so) k + 1)) (lo' := [some (.ref _), some (.int _), some (.int _), some (.int _), some (.int _)]) F dX10_sorts_76 rfl (j_inc _) rfl rfl ?_
                refine v_iinc (pc := 79) (i := 4) (v := nI (k + 1)) (lo' := [some (.ref _), some (.int _), some (.int _), some (.int _), some (.int _)]) F dX10_sorts_79 rfl (j_inc _) rfl rfl ?_
                refine v_goto (pc := 82) (tgt := 38) F dX10_sorts_82 (by decide) ?_
                have q := ih (by omega)
                first | (rw [cK_t (k := k) (by simpa using hc)] at q; exact q) | (rw [cK_f (k := k) (by simpa using hc)] at q; exact q)
            · rw [nI_eq (by omega) (by omega)] at h49_15
              exact absurd h49_15 (by decide)
        · rw [j_eq0 (by omega)] at h24_13
          exact absurd h24_13 (by decide)
    · rw [b2i_0] at h13_5
      refine v_aload_n (pc := 16) (i := 0) F dX10_sorts_16 rfl rfl ?_
      refine v_bipush (pc := 17) (v := (-2)) F dX10_sorts_17 (by decide) ?_
      refine v_callVI (pc := 19) (As := [_]) (rest := []) (c := 10) F mX10_no kX10_96 im_X10_no se_X10_no dX10_sorts_19 rfl rfl (by decide) (c_X10_no (-2) 2 (by decide) (by decide) _) (by decide) rfl rfl (Nat.le_of_ble_eq_true rfl) lm0 (fun x17 μ17 hp17 => ?_)
      rw [hp17.1, hp17.2]
      refine v_ireturn (pc := 22) F dX10_sorts_22 (rfl) ?_
      simp only [s_sorts, rj, hnn, h4_2, ek_so, h13_5, ↓reduceIte]
      refine ⟨?_, ?_⟩ <;> first | exact trivial | exact rfl | exact Fm.rf

set_option maxRecDepth 100000 in
theorem c_X10_rare (what : Int32) (μ : j_M) (hM : MI μ) : Ct yX10_rare cX10_rare 5 (some .int) 2 ΛM [.ref 0, .int what] μ (pI fun r μ2 => r = (s_rare what μ).1 ∧ Fm PS (s_rare what μ).2 μ2) := by
  refine Ct.go (lo := [some (.ref 0), some (.int what), none, none, none]) (by decide) (Nat.le_of_ble_eq_true rfl) rfl rfl (fun X F => ?_)
  have F : Fx X cX10_rare RX10 2 (some .int) ΛM := F
  obtain ⟨n, hW, hsh, htp, him⟩ := id hM
  have hn := hW.1
  have hn8 := hW.2.1
  have hnn := nn_eq hn hn8
  have ho := hW.own
  have hrw : RW μ.1 n μ := RW.self hn
  have hpw := j_pw hn8
  refine v_iload_n (pc := 0) (i := 1) F dX10_rare_0 rfl rfl ?_
  refine v_iconst (pc := 1) (v := nI 0) F dX10_rare_1 (by decide) ?_
  refine v_iconst (pc := 2) (v := nI 1) F dX10_rare_2 (by decide) ?_
  refine v_callSI (pc := 3) (As := [_, _, _]) (rest := []) F mX10_within kX10_85 sm_X10_within dX10_rare_3 (c_X10_withinR _ 1 2 rfl (by decide) _) (by decide) rfl rfl (Nat.le_of_ble_eq_true rfl) (fun x1 μ1 hp1 => ?_)
  rw [hp1.1, hp1.2]
  refine v_if_ne (pc := 6) (tgt := 16) F dX10_rare_6 (by decide) (fun h6_2 => ?_) (fun h6_2 => ?_)
  · rw [b2i_0] at h6_2
    rw [Classical.not_not] at h6_2
    obtain ⟨k_what, hk_what, he_what⟩ := inR_of (by decide) h6_2
    subst he_what
    have ek_what : ix (nI k_what) = k_what := nI_clamp (by omega)
    refine v_iconst (pc := 16) (v := (-1)) F dX10_rare_16 (by decide) ?_
    refine v_istore_n (pc := 17) (lo' := [some (.ref _), some (.int _), some (.int _), _, _]) F dX10_rare_17 rfl rfl (Nat.le_of_ble_eq_true rfl) rfl ?_
    refine v_iconst (pc := 18) (v := nI 0) F dX10_rare_18 (by decide) ?_
    refine v_istore_n (pc := 19) (lo' := [some (.ref _), some (.int _), some (.int _), some (.int _), _]) F dX10_rare_19 rfl rfl (Nat.le_of_ble_eq_true rfl) rfl ?_
    refine j_up 8 (fun k => V X _ 20 [some (.ref 0), some (.int (nI k_what)), some (.int (o2i (rrO (μ.1 1) k_what k))), some (.int (nI k)), none] [] μ) (fun k hk ih => ?_) 0 (Nat.zero_le _)
    refine v_iload_n (pc := 20) (i := 3) F dX10_rare_20 rfl rfl ?_
    refine v_bipush (pc := 21) (v := nI 8) F dX10_rare_21 (by decide) ?_
    refine v_icmp_ge (pc := 23) (tgt := 78) F dX10_rare_23 (by decide) (fun h23_3 => ?_) (fun h23_3 => ?_)
    · rw [nI_leI (by omega) (by omega)] at h23_3
      have e8 : k = 8 := by omega
      subst e8
      rcases hE : rrO (μ.1 1) k_what 8 with _ | f
      · skip
        simp only [o2i]
        refine v_iload_n (pc := 78) (i := 2) F dX10_rare_78 rfl rfl ?_
        refine v_iconst (pc := 79) (v := (-1)) F dX10_rare_79 (by decide) ?_
        refine v_icmp_ne (pc := 80) (tgt := 92) F dX10_rare_80 (by decide) (fun h80_4 => ?_) (fun h80_4 => ?_)
        · skip
          exact absurd rfl h80_4
        · skip
          refine v_aload_n (pc := 83) (i := 0) F dX10_rare_83 rfl rfl ?_
          refine v_bipush (pc := 84) (v := (-5)) F dX10_rare_84 (by decide) ?_
          refine v_callVI (pc := 86) (As := [_]) (rest := []) (c := 10) F mX10_no kX10_96 im_X10_no se_X10_no dX10_rare_86 rfl rfl (by decide) (c_X10_no (-5) 5 (by decide) (by decide) _) (by decide) rfl rfl (Nat.le_of_ble_eq_true rfl) lm0 (fun x5 μ5 hp5 => ?_)
          rw [hp5.1, hp5.2]
          refine v_goto (pc := 89) (tgt := 93) F dX10_rare_89 (by decide) ?_
          refine v_ireturn (pc := 93) F dX10_rare_93 (rfl) ?_
          simp only [s_rare, rj, hnn, h6_2, ek_what, h23_3, h80_4, hE, ↓reduceIte]
          refine ⟨?_, ?_⟩ <;> first | exact trivial | exact rfl | exact Fm.rf
      · skip
        simp only [o2i]
        have hf := rrO_lt 8 f hE
        refine v_iload_n (pc := 78) (i := 2) F dX10_rare_78 rfl rfl ?_
        refine v_iconst (pc := 79) (v := (-1)) F dX10_rare_79 (by decide) ?_
        refine v_icmp_ne (pc := 80) (tgt := 92) F dX10_rare_80 (by decide) (fun h80_6 => ?_) (fun h80_6 => ?_)
        · rw [j_nm1 (by omega)] at h80_6
          refine v_iload_n (pc := 92) (i := 2) F dX10_rare_92 rfl rfl ?_
          refine v_ireturn (pc := 93) F dX10_rare_93 (rfl) ?_
          simp only [s_rare, rj, hnn, h6_2, ek_what, h23_3, h80_6, hE, ↓reduceIte]
          refine ⟨?_, ?_⟩ <;> first | exact trivial | exact rfl | exact Fm.rf
        · rw [j_nm1 (by omega)] at h80_6
          exact h80_6.elim
    · rw [nI_leI (by omega) (by omega)] at h23_3
      rcases hE : rrO (μ.1 1) k_what k with _ | f
      · skip
        simp only [o2i]
        refine v_aload_n (pc := 26) (i := 0) F dX10_rare_26 rfl rfl ?_
        refine v_iload_n (pc := 27) (i := 3) F dX10_rare_27 rfl rfl ?_
        refine v_callVI (pc := 28) (As := [_]) (rest := []) (c := 10) F mX10_inWindow kX10_272 im_X10_inWindow se_X10_inWindow dX10_rare_28 rfl rfl (by decide) (c_X10_inWindow _ _) (by decide) rfl rfl (Nat.le_of_ble_eq_true rfl) lm0 (fun x7 μ7 hp7 => ?_)
        rw [hp7.1, hp7.2]
        refine v_istore (pc := 31) (lo' := [some (.ref _), some (.int _), some (.int _), some (.int _), some (.int _)]) F dX10_rare_31 rfl (Nat.le_of_ble_eq_true rfl) rfl ?_
        refine v_iload (pc := 33) (i := 4) F dX10_rare_33 rfl ?_
        refine v_if_le (pc := 35) (tgt := 72) F dX10_rare_35 (by decide) (fun hp => ?_) (fun hp => ?_)
        · rw [j_le0 cP_b] at hp
          refine v_iinc (pc := 72) (i := 3) (v := nI (k + 1)) (lo' := [some (.ref _), some (.int _), some (.int _), some (.int _), some (.int _)]) F dX10_rare_72 rfl (j_inc _) rfl rfl ?_
          refine v_goto (pc := 75) (tgt := 20) F dX10_rare_75 (by decide) ?_
          refine v_drop (i := 4) (lo' := [some (.ref _), some (.int _), some (.int _), some (.int _), _]) rfl ?_
          have q := ih (by omega)
          first | rw [rrO_n0 hE hp] at q | rw [rrO_n1 hE hp] at q | rw [rrO_s0 hE hp] at q | rw [rrO_sa hE hp hw hc] at q | rw [rrO_sb hE hp hw hc] at q | rw [rrO_sc hE hp hw hc] at q | rw [rrO_sd hE hp hw hc] at q
          exact q
        · rw [j_le0 cP_b] at hp
          refine v_iload_n (pc := 38) (i := 2) F dX10_rare_38 rfl rfl ?_
          refine v_iconst (pc := 39) (v := (-1)) F dX10_rare_39 (by decide) ?_
          refine v_icmp_eq (pc := 40) (tgt := 70) F dX10_rare_40 (by decide) (fun h40_9 => ?_) (fun h40_9 => ?_)
          · skip
            refine v_iload_n (pc := 70) (i := 3) F dX10_rare_70 rfl rfl ?_
            refine v_istore_n (pc := 71) (lo' := [some (.ref _), some (.int _), some (.int _), some (.int _), some (.int _)]) F dX10_rare_71 rfl rfl (Nat.le_of_ble_eq_true rfl) rfl ?_
            refine v_iinc (pc := 72) (i := 3) (v := nI (k + 1)) (lo' := [some (.ref _), some (.int _), some (.int _), some (.int _), some (.int _)]) F dX10_rare_72 rfl (j_inc _) rfl rfl ?_
            refine v_goto (pc := 75) (tgt := 20) F dX10_rare_75 (by decide) ?_
            refine v_drop (i := 4) (lo' := [some (.ref _), some (.int _), some (.int _), some (.int _), _]) rfl ?_
            have q := ih (by omega)
            first | rw [rrO_n0 hE hp] at q | rw [rrO_n1 hE hp] at q | rw [rrO_s0 hE hp] at q | rw [rrO_sa hE hp hw hc] at q | rw [rrO_sb hE hp hw hc] at q | rw [rrO_sc hE hp hw hc] at q | rw [rrO_sd hE hp hw hc] at q
            exact q
          · skip
            exact absurd rfl h40_9
      · skip
        simp only [o2i]
        have hf := rrO_lt k f hE
        refine v_aload_n (pc := 26) (i := 0) F dX10_rare_26 rfl rfl ?_
        refine v_iload_n (pc := 27) (i := 3) F dX10_rare_27 rfl rfl ?_
        refine v_callVI (pc := 28) (As := [_]) (rest := []) (c := 10) F mX10_inWindow kX10_272 im_X10_inWindow se_X10_inWindow dX10_rare_28 rfl rfl (by decide) (c_X10_inWindow _ _) (by decide) rfl rfl (Nat.le_of_ble_eq_true rfl) lm0 (fun x10 μ10 hp10 => ?_)
        rw [hp10.1, hp10.2]
        refine v_istore (pc := 31) (lo' := [some (.ref _), some (.int _), some (.int _), some (.int _), some (.int _)]) F dX10_rare_31 rfl (Nat.le_of_ble_eq_true rfl) rfl ?_
        refine v_iload (pc := 33) (i := 4) F dX10_rare_33 rfl ?_
        refine v_if_le (pc := 35) (tgt := 72) F dX10_rare_35 (by decide) (fun hp => ?_) (fun hp => ?_)
        · rw [j_le0 cP_b] at hp
          refine v_iinc (pc := 72) (i := 3) (v := nI (k + 1)) (lo' := [some (.ref _), some (.int _), some (.int _), some (.int _), some (.int _)]) F dX10_rare_72 rfl (j_inc _) rfl rfl ?_
          refine v_goto (pc := 75) (tgt := 20) F dX10_rare_75 (by decide) ?_
          refine v_drop (i := 4) (lo' := [some (.ref _), some (.int _), some (.int _), some (.int _), _]) rfl ?_
          have q := ih (by omega)
          first | rw [rrO_n0 hE hp] at q | rw [rrO_n1 hE hp] at q | rw [rrO_s0 hE hp] at q | rw [rrO_sa hE hp hw hc] at q | rw [rrO_sb hE hp hw hc] at q | rw [rrO_sc hE hp hw hc] at q | rw [rrO_sd hE hp hw hc] at q
          exact q
        · rw [j_le0 cP_b] at hp
          refine v_iload_n (pc := 38) (i := 2) F dX10_rare_38 rfl rfl ?_
          refine v_iconst (pc := 39) (v := (-1)) F dX10_rare_39 (by decide) ?_
          refine v_icmp_eq (pc := 40) (tgt := 70) F dX10_rare_40 (by decide) (fun h40_12 => ?_) (fun h40_12 => ?_)
          · rw [j_nm1 (by omega)] at h40_12
            exact h40_12.elim
          · rw [j_nm1 (by omega)] at h40_12
            refine v_iload_n (pc := 43) (i := 1) F dX10_rare_43 rfl rfl ?_
            refine v_if_ne (pc := 44) (tgt := 60) F dX10_rare_44 (by decide) (fun hw => ?_) (fun hw => ?_)
            · rw [j_eq0 (by omega)] at hw
              refine v_iload (pc := 60) (i := 4) F dX10_rare_60 rfl ?_
              refine v_aload_n (pc := 62) (i := 0) F dX10_rare_62 rfl rfl ?_
              refine v_iload_n (pc := 63) (i := 2) F dX10_rare_63 rfl rfl ?_
              refine v_callVI (pc := 64) (As := [_]) (rest := [_]) (c := 10) F mX10_inWindow kX10_272 im_X10_inWindow se_X10_inWindow dX10_rare_64 rfl rfl (by decide) (c_X10_inWindow _ _) (by decide) rfl rfl (Nat.le_of_ble_eq_true rfl) lm0 (fun x14 μ14 hp14 => ?_)
              rw [hp14.1, hp14.2]
              refine v_icmp_le (pc := 67) (tgt := 72) F dX10_rare_67 (by decide) (fun hc => ?_) (fun hc => ?_)
              · rw [nI_leI cP_b cP_b] at hc
                refine v_iinc (pc := 72) (i := 3) (v := nI (k + 1)) (lo' := [some (.ref _), some (.int _), some (.int _), some (.int _), some (.int _)]) F dX10_rare_72 rfl (j_inc _) rfl rfl ?_
                refine v_goto (pc := 75) (tgt := 20) F dX10_rare_75 (by decide) ?_
                refine v_drop (i := 4) (lo' := [some (.ref _), some (.int _), some (.int _), some (.int _), _]) rfl ?_
                have q := ih (by omega)
                first | rw [rrO_n0 hE hp] at q | rw [rrO_n1 hE hp] at q | rw [rrO_s0 hE hp] at q | rw [rrO_sa hE hp hw hc] at q | rw [rrO_sb hE hp hw hc] at q | rw [rrO_sc hE hp hw hc] at q | rw [rrO_sd hE hp hw hc] at q
                exact q
              · rw [nI_leI cP_b cP_b] at hc
                refine v_iload_n (pc := 70) (i := 3) F dX10_rare_70 rfl rfl ?_
                refine v_istore_n (pc := 71) (lo' := [some (.ref _), some (.int _), some (.int _), some (.int _), some (.int _)]) F dX10_rare_71 rfl rfl (Nat.le_of_ble_eq_true rfl) rfl ?_
                refine v_iinc (pc := 72) (i := 3) (v := nI (k + 1)) (lo' := [some (.ref _), some (.int _), some (.int _), some (.int _), some (.int _)]) F dX10_rare_72 rfl (j_inc _) rfl rfl ?_
                refine v_goto (pc := 75) (tgt := 20) F dX10_rare_75 (by decide) ?_
                refine v_drop (i := 4) (lo' := [some (.ref _), some (.int _), some (.int _), some (.int _), _]) rfl ?_
                have q := ih (by omega)
                first | rw [rrO_n0 hE hp] at q | rw [rrO_n1 hE hp] at q | rw [rrO_s0 hE hp] at q | rw [rrO_sa hE hp hw hc] at q | rw [rrO_sb hE hp hw hc] at q | rw [rrO_sc hE hp hw hc] at q | rw [rrO_sd hE hp hw hc] at q
                exact q
            · rw [j_eq0 (by omega)] at hw
              refine v_iload (pc := 47) (i := 4) F dX10_rare_47 rfl ?_
              refine v_aload_n (pc := 49) (i := 0) F dX10_rare_49 rfl rfl ?_
              refine v_iload_n (pc := 50) (i := 2) F dX10_rare_50 rfl rfl ?_
              refine v_callVI (pc := 51) (As := [_]) (rest := [_]) (c := 10) F mX10_inWindow kX10_272 im_X10_inWindow se_X10_inWindow dX10_rare_51 rfl rfl (by decide) (c_X10_inWindow _ _) (by decide) rfl rfl (Nat.le_of_ble_eq_true rfl) lm0 (fun x16 μ16 hp16 => ?_)
              rw [hp16.1, hp16.2]
              refine v_icmp_ge (pc := 54) (tgt := 72) F dX10_rare_54 (by decide) (fun hc => ?_) (fun hc => ?_)
              · rw [nI_leI cP_b cP_b] at hc
                refine v_iinc (pc := 72) (i := 3) (v := nI (k + 1)) (lo' := [some (.ref _), some (.int _), some (.int _), some (.int _), some (.int _)]) F dX10_rare_72 rfl (j_inc _) rfl rfl ?_
                refine v_goto (pc := 75) (tgt := 20) F dX10_rare_75 (by decide) ?_
                refine v_drop (i := 4) (lo' := [some (.ref _), some (.int _), some (.int _), some (.int _), _]) rfl ?_
                have q := ih (by omega)
                first | rw [rrO_n0 hE hp] at q | rw [rrO_n1 hE hp] at q | rw [rrO_s0 hE hp] at q | rw [rrO_sa hE hp hw hc] at q | rw [rrO_sb hE hp hw hc] at q | rw [rrO_sc hE hp hw hc] at q | rw [rrO_sd hE hp hw hc] at q
                exact q
              · rw [nI_leI cP_b cP_b] at hc
                refine v_goto (pc := 57) (tgt := 70) F dX10_rare_57 (by decide) ?_
                refine v_iload_n (pc := 70) (i := 3) F dX10_rare_70 rfl rfl ?_
                refine v_istore_n (pc := 71) (lo' := [some (.ref _), some (.int _), some (.int _), some (.int _), some (.int _)]) F dX10_rare_71 rfl rfl (Nat.le_of_ble_eq_true rfl) rfl ?_
                refine v_iinc (pc := 72) (i := 3) (v := nI (k + 1)) (lo' := [some (.ref _), some (.int _), some (.int _), some (.int _), some (.int _)]) F dX10_rare_72 rfl (j_inc _) rfl rfl ?_
                refine v_goto (pc := 75) (tgt := 20) F dX10_rare_75 (by decide) ?_
                refine v_drop (i := 4) (lo' := [some (.ref _), some (.int _), some (.int _), some (.int _), _]) rfl ?_
                have q := ih (by omega)
                first | rw [rrO_n0 hE hp] at q | rw [rrO_n1 hE hp] at q | rw [rrO_s0 hE hp] at q | rw [rrO_sa hE hp hw hc] at q | rw [rrO_sb hE hp hw hc] at q | rw [rrO_sc hE hp hw hc] at q | rw [rrO_sd hE hp hw hc] at q
                exact q
  · rw [b2i_0] at h6_2
    refine v_aload_n (pc := 9) (i := 0) F dX10_rare_9 rfl rfl ?_
    refine v_bipush (pc := 10) (v := (-2)) F dX10_rare_10 (by decide) ?_
    refine v_callVI (pc := 12) (As := [_]) (rest := []) (c := 10) F mX10_no kX10_96 im_X10_no se_X10_no dX10_rare_12 rfl rfl (by decide) (c_X10_no (-2) 2 (by decide) (by decide) _) (by decide) rfl rfl (Nat.le_of_ble_eq_true rfl) lm0 (fun x18 μ18 hp18 => ?_)
    rw [hp18.1, hp18.2]
    refine v_ireturn (pc := 15) F dX10_rare_15 (rfl) ?_
    simp only [s_rare, rj, hnn, h6_2, ↓reduceIte]
    refine ⟨?_, ?_⟩ <;> first | exact trivial | exact rfl | exact Fm.rf

set_option maxRecDepth 100000 in
theorem c_X10_rank (l wh : Nat) (hl : l < 8) (hw : wh < 3) (μ : j_M) : Ct yX10_rank cX10_rank 5 (some .int) 0 ΛM [.ref 0, .int (nI l), .int (nI wh)] μ (pI fun r μ2 => r = (rkV μ.1 wh l) ∧ μ2 = μ) := by
  refine Ct.go (lo := [some (.ref 0), some (.int (nI l)), some (.int (nI wh)), none, none]) (by decide) (Nat.le_of_ble_eq_true rfl) rfl rfl (fun X F => ?_)
  have F : Fx X cX10_rank RX10 0 (some .int) ΛM := F
  refine v_iload_n (pc := 0) (i := 2) F dX10_rank_0 rfl rfl ?_
  refine v_iconst (pc := 1) (v := nI 2) F dX10_rank_1 (by decide) ?_
  refine v_icmp_ge (pc := 2) (tgt := 26) F dX10_rank_2 (by decide) (fun h2 => ?_) (fun h2 => ?_)
  · rw [nI_leI (by omega) (by omega)] at h2
    refine v_iconst (pc := 26) (v := nI 0) F dX10_rank_26 (by decide) ?_
    refine v_istore_n (pc := 27) (lo' := [some (.ref _), some (.int _), some (.int _), some (.int _), _]) F dX10_rank_27 rfl rfl (Nat.le_of_ble_eq_true rfl) rfl ?_
    refine v_iconst (pc := 28) (v := nI 0) F dX10_rank_28 (by decide) ?_
    refine v_istore (pc := 29) (lo' := [some (.ref _), some (.int _), some (.int _), some (.int _), some (.int _)]) F dX10_rank_29 rfl (Nat.le_of_ble_eq_true rfl) rfl ?_
    refine j_up 8 (fun k => V X _ 31 [some (.ref 0), some (.int (nI l)), some (.int (nI wh)), some (.int (hsK (μ.1 8) l k)), some (.int (nI k))] [] μ) (fun k hk ih => ?_) 0 (Nat.zero_le _)
    refine v_iload (pc := 31) (i := 4) F dX10_rank_31 rfl ?_
    refine v_bipush (pc := 33) (v := nI 8) F dX10_rank_33 (by decide) ?_
    refine v_icmp_ge (pc := 35) (tgt := 59) F dX10_rank_35 (by decide) (fun h35_2 => ?_) (fun h35_2 => ?_)
    · rw [nI_leI (by omega) (by omega)] at h35_2
      refine v_iload_n (pc := 59) (i := 3) F dX10_rank_59 rfl rfl ?_
      refine v_ireturn (pc := 60) F dX10_rank_60 (rfl) ?_
      have e : k = 8 := by omega
      subst e
      refine ⟨?_, rfl⟩
      unfold rkV
      rw [if_neg (by omega), if_neg (by omega)]
    · rw [nI_leI (by omega) (by omega)] at h35_2
      refine v_iload_n (pc := 38) (i := 3) F dX10_rank_38 rfl rfl ?_
      refine v_aload_n (pc := 39) (i := 0) F dX10_rank_39 rfl rfl ?_
      refine v_getR (pc := 40) (o := 8) F fX10_31 dX10_rank_40 rfl lm0 ?_
      refine v_topR (y := 8) rfl ?_
      refine v_bipush (pc := 43) (v := nI 8) F dX10_rank_43 (by decide) ?_
      refine v_iload_n (pc := 45) (i := 1) F dX10_rank_45 rfl rfl ?_
      refine v_imul (pc := 46) F dX10_rank_46 ?_
      refine v_topE (pk_mul _ _) ?_
      refine v_iload (pc := 47) (i := 4) F dX10_rank_47 rfl ?_
      refine v_iadd (pc := 49) F dX10_rank_49 ?_
      refine v_topE (nI_add _ _) ?_
      refine v_ialdN (pc := 50) (k0 := 8 * l + k) F dX10_rank_50 (lm10_8 lm0) (rfl) (by omega) (by decide) ?_
      refine v_iadd (pc := 51) F dX10_rank_51 ?_
      refine v_istore_n (pc := 52) (lo' := [some (.ref _), some (.int _), some (.int _), some (.int _), some (.int _)]) F dX10_rank_52 rfl rfl (Nat.le_of_ble_eq_true rfl) rfl ?_
      refine v_iinc (pc := 53) (i := 4) (v := nI (k + 1)) (lo' := [some (.ref _), some (.int _), some (.int _), some (.int _), some (.int _)]) F dX10_rank_53 rfl (j_inc _) rfl rfl ?_
      refine v_goto (pc := 56) (tgt := 31) F dX10_rank_56 (by decide) ?_
      exact ih (by omega)
  · rw [nI_leI (by omega) (by omega)] at h2
    refine v_iload_n (pc := 5) (i := 2) F dX10_rank_5 rfl rfl ?_
    refine v_if_ne (pc := 6) (tgt := 19) F dX10_rank_6 (by decide) (fun h0 => ?_) (fun h0 => ?_)
    · rw [j_eq0 (by omega)] at h0
      refine v_aload_n (pc := 19) (i := 0) F dX10_rank_19 rfl rfl ?_
      refine v_getR (pc := 20) (o := 4) F fX10_19 dX10_rank_20 rfl lm0 ?_
      refine v_topR (y := 4) rfl ?_
      refine v_iload_n (pc := 23) (i := 1) F dX10_rank_23 rfl rfl ?_
      refine v_ialdN (pc := 24) (k0 := l) F dX10_rank_24 (lm10_4 lm0) (rfl) (by omega) (by decide) ?_
      refine v_ireturn (pc := 25) F dX10_rank_25 (rfl) ?_
      refine ⟨?_, rfl⟩
      unfold rkV
      first | rw [if_pos h0] | rw [if_neg h0, if_pos (by omega)]
    · rw [j_eq0 (by omega)] at h0
      refine v_aload_n (pc := 9) (i := 0) F dX10_rank_9 rfl rfl ?_
      refine v_getR (pc := 10) (o := 4) F fX10_19 dX10_rank_10 rfl lm0 ?_
      refine v_topR (y := 4) rfl ?_
      refine v_iload_n (pc := 13) (i := 1) F dX10_rank_13 rfl rfl ?_
      refine v_ialdN (pc := 14) (k0 := l) F dX10_rank_14 (lm10_4 lm0) (rfl) (by omega) (by decide) ?_
      refine v_ineg (pc := 15) F dX10_rank_15 ?_
      refine v_goto (pc := 16) (tgt := 25) F dX10_rank_16 (by decide) ?_
      refine v_ireturn (pc := 25) F dX10_rank_25 (rfl) ?_
      refine ⟨?_, rfl⟩
      unfold rkV
      first | rw [if_pos h0] | rw [if_neg h0, if_pos (by omega)]

set_option maxRecDepth 100000 in
theorem c_X10_first (what : Int32) (μ : j_M) (hM : MI μ) : Ct yX10_first cX10_first 4 (some .int) 2 ΛM [.ref 0, .int what] μ (pI fun r μ2 => r = (s_first what μ).1 ∧ Fm PS (s_first what μ).2 μ2) := by
  refine Ct.go (lo := [some (.ref 0), some (.int what), none, none]) (by decide) (Nat.le_of_ble_eq_true rfl) rfl rfl (fun X F => ?_)
  have F : Fx X cX10_first RX10 2 (some .int) ΛM := F
  obtain ⟨n, hW, hsh, htp, him⟩ := id hM
  have hn := hW.1
  have hn8 := hW.2.1
  have hnn := nn_eq hn hn8
  have ho := hW.own
  have hrw : RW μ.1 n μ := RW.self hn
  have hpw := j_pw hn8
  refine v_iload_n (pc := 0) (i := 1) F dX10_first_0 rfl rfl ?_
  refine v_iconst (pc := 1) (v := nI 0) F dX10_first_1 (by decide) ?_
  refine v_iconst (pc := 2) (v := nI 2) F dX10_first_2 (by decide) ?_
  refine v_callSI (pc := 3) (As := [_, _, _]) (rest := []) F mX10_within kX10_85 sm_X10_within dX10_first_3 (c_X10_withinR _ 2 3 rfl (by decide) _) (by decide) rfl rfl (Nat.le_of_ble_eq_true rfl) (fun x1 μ1 hp1 => ?_)
  rw [hp1.1, hp1.2]
  refine v_if_ne (pc := 6) (tgt := 16) F dX10_first_6 (by decide) (fun h6_2 => ?_) (fun h6_2 => ?_)
  · rw [b2i_0] at h6_2
    rw [Classical.not_not] at h6_2
    obtain ⟨k_what, hk_what, he_what⟩ := inR_of (by decide) h6_2
    subst he_what
    have ek_what : ix (nI k_what) = k_what := nI_clamp (by omega)
    refine v_iconst (pc := 16) (v := (-1)) F dX10_first_16 (by decide) ?_
    refine v_istore_n (pc := 17) (lo' := [some (.ref _), some (.int _), some (.int _), _]) F dX10_first_17 rfl rfl (Nat.le_of_ble_eq_true rfl) rfl ?_
    refine v_iconst (pc := 18) (v := nI 0) F dX10_first_18 (by decide) ?_
    refine v_istore_n (pc := 19) (lo' := [some (.ref _), some (.int _), some (.int _), some (.int _)]) F dX10_first_19 rfl rfl (Nat.le_of_ble_eq_true rfl) rfl ?_
    refine j_up n (fun k => V X _ 20 [some (.ref 0), some (.int (nI k_what)), some (.int (o2i (frO μ.1 k_what k))), some (.int (nI k))] [] μ) (fun k hk ih => ?_) 0 (Nat.zero_le _)
    refine v_iload_n (pc := 20) (i := 3) F dX10_first_20 rfl rfl ?_
    refine v_aload_n (pc := 21) (i := 0) F dX10_first_21 rfl rfl ?_
    refine v_getI (pc := 22) F fX10_89 dX10_first_22 rfl lm0 ?_
    refine v_topE (hn) ?_
    refine v_icmp_ge (pc := 25) (tgt := 56) F dX10_first_25 (by decide) (fun h25_3 => ?_) (fun h25_3 => ?_)
    · rw [nI_leI (by omega) (by omega)] at h25_3
      have e8 : k = n := by omega
      subst e8
      rcases hE : frO μ.1 k_what k with _ | f
      · skip
        simp only [o2i]
        refine v_iload_n (pc := 56) (i := 2) F dX10_first_56 rfl rfl ?_
        refine v_iconst (pc := 57) (v := (-1)) F dX10_first_57 (by decide) ?_
        refine v_icmp_ne (pc := 58) (tgt := 70) F dX10_first_58 (by decide) (fun h58_4 => ?_) (fun h58_4 => ?_)
        · skip
          exact absurd rfl h58_4
        · skip
          refine v_aload_n (pc := 61) (i := 0) F dX10_first_61 rfl rfl ?_
          refine v_bipush (pc := 62) (v := (-5)) F dX10_first_62 (by decide) ?_
          refine v_callVI (pc := 64) (As := [_]) (rest := []) (c := 10) F mX10_no kX10_96 im_X10_no se_X10_no dX10_first_64 rfl rfl (by decide) (c_X10_no (-5) 5 (by decide) (by decide) _) (by decide) rfl rfl (Nat.le_of_ble_eq_true rfl) lm0 (fun x5 μ5 hp5 => ?_)
          rw [hp5.1, hp5.2]
          refine v_goto (pc := 67) (tgt := 71) F dX10_first_67 (by decide) ?_
          refine v_ireturn (pc := 71) F dX10_first_71 (rfl) ?_
          simp only [s_first, rj, hnn, h6_2, ek_what, h25_3, h58_4, hE, ↓reduceIte]
          refine ⟨?_, ?_⟩ <;> first | exact trivial | exact rfl | exact Fm.rf
      · skip
        simp only [o2i]
        have hf := frO_lt k f hE
        refine v_iload_n (pc := 56) (i := 2) F dX10_first_56 rfl rfl ?_
        refine v_iconst (pc := 57) (v := (-1)) F dX10_first_57 (by decide) ?_
        refine v_icmp_ne (pc := 58) (tgt := 70) F dX10_first_58 (by decide) (fun h58_6 => ?_) (fun h58_6 => ?_)
        · rw [j_nm1 (by omega)] at h58_6
          refine v_iload_n (pc := 70) (i := 2) F dX10_first_70 rfl rfl ?_
          refine v_ireturn (pc := 71) F dX10_first_71 (rfl) ?_
          simp only [s_first, rj, hnn, h6_2, ek_what, h25_3, h58_6, hE, ↓reduceIte]
          refine ⟨?_, ?_⟩ <;> first | exact trivial | exact rfl | exact Fm.rf
        · rw [j_nm1 (by omega)] at h58_6
          exact h58_6.elim
    · rw [nI_leI (by omega) (by omega)] at h25_3
      rcases hE : frO μ.1 k_what k with _ | f
      · skip
        simp only [o2i]
        refine v_iload_n (pc := 28) (i := 2) F dX10_first_28 rfl rfl ?_
        refine v_iconst (pc := 29) (v := (-1)) F dX10_first_29 (by decide) ?_
        refine v_icmp_eq (pc := 30) (tgt := 48) F dX10_first_30 (by decide) (fun h30_7 => ?_) (fun h30_7 => ?_)
        · skip
          refine v_iload_n (pc := 48) (i := 3) F dX10_first_48 rfl rfl ?_
          refine v_istore_n (pc := 49) (lo' := [some (.ref _), some (.int _), some (.int _), some (.int _)]) F dX10_first_49 rfl rfl (Nat.le_of_ble_eq_true rfl) rfl ?_
          refine v_iinc (pc := 50) (i := 3) (v := nI (k + 1)) (lo' := [some (.ref _), some (.int _), some (.int _), some (.int _)]) F dX10_first_50 rfl (j_inc _) rfl rfl ?_
          refine v_goto (pc := 53) (tgt := 20) F dX10_first_53 (by decide) ?_
          have q := ih (by omega)
          first | rw [frO_n hE] at q | rw [frO_t hE hc] at q | rw [frO_f hE hc] at q | rw [frO_f hE (Int32.not_lt.mpr hc)] at q | rw [frO_t hE (Int32.not_le.mp hc)] at q
          exact q
        · skip
          exact absurd rfl h30_7
      · skip
        simp only [o2i]
        have hf := frO_lt k f hE
        refine v_iload_n (pc := 28) (i := 2) F dX10_first_28 rfl rfl ?_
        refine v_iconst (pc := 29) (v := (-1)) F dX10_first_29 (by decide) ?_
        refine v_icmp_eq (pc := 30) (tgt := 48) F dX10_first_30 (by decide) (fun h30_8 => ?_) (fun h30_8 => ?_)
        · rw [j_nm1 (by omega)] at h30_8
          exact h30_8.elim
        · rw [j_nm1 (by omega)] at h30_8
          refine v_aload_n (pc := 33) (i := 0) F dX10_first_33 rfl rfl ?_
          refine v_iload_n (pc := 34) (i := 3) F dX10_first_34 rfl rfl ?_
          refine v_iload_n (pc := 35) (i := 1) F dX10_first_35 rfl rfl ?_
          refine v_callVI (pc := 36) (As := [_, _]) (rest := []) (c := 10) F mX10_rank kX10_275 im_X10_rank se_X10_rank dX10_first_36 rfl rfl (by decide) (c_X10_rank k k_what (by omega) (by omega) _) (by decide) rfl rfl (Nat.le_of_ble_eq_true rfl) lm0 (fun x9 μ9 hp9 => ?_)
          rw [hp9.1, hp9.2]
          refine v_aload_n (pc := 39) (i := 0) F dX10_first_39 rfl rfl ?_
          refine v_iload_n (pc := 40) (i := 2) F dX10_first_40 rfl rfl ?_
          refine v_iload_n (pc := 41) (i := 1) F dX10_first_41 rfl rfl ?_
          refine v_callVI (pc := 42) (As := [_, _]) (rest := [_]) (c := 10) F mX10_rank kX10_275 im_X10_rank se_X10_rank dX10_first_42 rfl rfl (by decide) (c_X10_rank f k_what (by omega) (by omega) _) (by decide) rfl rfl (Nat.le_of_ble_eq_true rfl) lm0 (fun x10 μ10 hp10 => ?_)
          rw [hp10.1, hp10.2]
          refine v_icmp_le (pc := 45) (tgt := 50) F dX10_first_45 (by decide) (fun hc => ?_) (fun hc => ?_)
          · skip
            refine v_iinc (pc := 50) (i := 3) (v := nI (k + 1)) (lo' := [some (.ref _), some (.int _), some (.int _), some (.int _)]) F dX10_first_50 rfl (j_inc _) rfl rfl ?_
            refine v_goto (pc := 53) (tgt := 20) F dX10_first_53 (by decide) ?_
            have q := ih (by omega)
            first | rw [frO_n hE] at q | rw [frO_t hE hc] at q | rw [frO_f hE hc] at q | rw [frO_f hE (Int32.not_lt.mpr hc)] at q | rw [frO_t hE (Int32.not_le.mp hc)] at q
            exact q
          · skip
            refine v_iload_n (pc := 48) (i := 3) F dX10_first_48 rfl rfl ?_
            refine v_istore_n (pc := 49) (lo' := [some (.ref _), some (.int _), some (.int _), some (.int _)]) F dX10_first_49 rfl rfl (Nat.le_of_ble_eq_true rfl) rfl ?_
            refine v_iinc (pc := 50) (i := 3) (v := nI (k + 1)) (lo' := [some (.ref _), some (.int _), some (.int _), some (.int _)]) F dX10_first_50 rfl (j_inc _) rfl rfl ?_
            refine v_goto (pc := 53) (tgt := 20) F dX10_first_53 (by decide) ?_
            have q := ih (by omega)
            first | rw [frO_n hE] at q | rw [frO_t hE hc] at q | rw [frO_f hE hc] at q | rw [frO_f hE (Int32.not_lt.mpr hc)] at q | rw [frO_t hE (Int32.not_le.mp hc)] at q
            exact q
  · rw [b2i_0] at h6_2
    refine v_aload_n (pc := 9) (i := 0) F dX10_first_9 rfl rfl ?_
    refine v_bipush (pc := 10) (v := (-2)) F dX10_first_10 (by decide) ?_
    refine v_callVI (pc := 12) (As := [_]) (rest := []) (c := 10) F mX10_no kX10_96 im_X10_no se_X10_no dX10_first_12 rfl rfl (by decide) (c_X10_no (-2) 2 (by decide) (by decide) _) (by decide) rfl rfl (Nat.le_of_ble_eq_true rfl) lm0 (fun x12 μ12 hp12 => ?_)
    rw [hp12.1, hp12.2]
    refine v_ireturn (pc := 15) F dX10_first_15 (rfl) ?_
    simp only [s_first, rj, hnn, h6_2, ↓reduceIte]
    refine ⟨?_, ?_⟩ <;> first | exact trivial | exact rfl | exact Fm.rf

set_option maxRecDepth 100000 in
theorem c_X10_toldAt (s i : Nat) (hs : s < 8) (hi : i < 40) (μ : j_M) : Ct yX10_toldAt cX10_toldAt 3 (some .long) 0 ΛM [.ref 0, .int (nI s), .int (nI i)] μ (pJ fun r μ2 => r = μ.2 12 (40 * s + i) ∧ μ2 = μ) := by
  refine Ct.go (lo := [some (.ref 0), some (.int (nI s)), some (.int (nI i))]) (by decide) (Nat.le_of_ble_eq_true rfl) rfl rfl (fun X F => ?_)
  have F : Fx X cX10_toldAt RX10 0 (some .long) ΛM := F
  refine v_aload_n (pc := 0) (i := 0) F dX10_toldAt_0 rfl rfl ?_
  refine v_getR (pc := 1) (o := 12) F fX10_43 dX10_toldAt_1 rfl lm0 ?_
  refine v_topR (y := 12) rfl ?_
  refine v_bipush (pc := 4) (v := nI 40) F dX10_toldAt_4 (by decide) ?_
  refine v_iload_n (pc := 6) (i := 1) F dX10_toldAt_6 rfl rfl ?_
  refine v_imul (pc := 7) F dX10_toldAt_7 ?_
  refine v_topE (pk_mul _ _) ?_
  refine v_iload_n (pc := 8) (i := 2) F dX10_toldAt_8 rfl rfl ?_
  refine v_iadd (pc := 9) F dX10_toldAt_9 ?_
  refine v_topE (nI_add _ _) ?_
  refine v_laldN (pc := 10) (k0 := 40 * s + i) F dX10_toldAt_10 (lm10_19 lm0) (rfl) (by omega) (by decide) ?_
  refine v_lreturn (pc := 11) F dX10_toldAt_11 ?_
  exact ⟨rfl, rfl⟩
