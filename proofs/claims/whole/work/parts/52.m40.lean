/-! the class: sorts, rare, first, status -/
theorem tb_add {P : Nat → Bool} {k : Nat} {x : Int32} (h : x = if P k = true then 1 else 0) : nI (cK P k) + x = nI (cK P (k + 1)) := by
  rw [h]
  by_cases c : P k = true
  · rw [if_pos c, cK_t c]; exact nI_1 _
  · rw [if_neg c, cK_f c]; exact nI_add _ 0
theorem wl_val {lk : Int32} {a s : Nat} (ha : a < 8) (hs : s < 8) : ((lk ||| ((1 : Int32) <<< (nI a &&& 31))) >>> (nI s &&& 31)) &&& nI 1 = if likB (nI a) lk (nI s) = true then 1 else 0 := by
  rw [show nI 1 = (1 : Int32) from rfl, tb_val (by omega), wanted_tb ha hs]
def rrF (t : Nat → Int32) (wh d k : Nat) : Nat := match rrO t wh k with
  | none => d
  | some f => wnS t f
theorem pw_cnt {w : Nat → Nat → Int32} {s : Nat} : jbc (pwB w s) = nI (wnS (w 1) s) := jbc_bK
theorem wnS_le {t : Nat → Int32} {s : Nat} : wnS t s ≤ 12 := cK_le _ _
theorem rrF_le {t : Nat → Int32} {wh d k : Nat} (hd : d ≤ 13) : rrF t wh d k ≤ 13 := by
  unfold rrF
  split
  · exact hd
  · exact Nat.le_trans wnS_le (by omega)
theorem ra_y {t : Nat → Int32} {s : Nat} (h1 : 0 < wnS t s) (h2 : wnS t s < rrF t 0 13 s) : rrO t 0 (s + 1) = some s := by
  unfold rrF at h2
  simp only [rrO]
  rcases e : rrO t 0 s with _ | f
  · simp only []; rw [if_pos h1]
  · rw [e] at h2
    simp only []
    rw [if_pos ⟨h1, (if_pos trivial : (if True then wnS t s < wnS t f else wnS t f < wnS t s) = _).mpr h2⟩]
theorem ra_n {t : Nat → Int32} {s : Nat} (h : ¬ (0 < wnS t s ∧ wnS t s < rrF t 0 13 s)) : rrO t 0 (s + 1) = rrO t 0 s := by
  unfold rrF at h
  simp only [rrO]
  rcases e : rrO t 0 s with _ | f
  · rw [e] at h
    simp only []
    rw [if_neg (fun z => h ⟨z, show wnS t s < 13 from Nat.lt_of_le_of_lt wnS_le (by decide)⟩)]
  · rw [e] at h
    simp only []
    rw [if_neg (fun z => h ⟨z.1, (if_pos trivial : (if True then wnS t s < wnS t f else wnS t f < wnS t s) = _).mp z.2⟩)]
theorem co_y {t : Nat → Int32} {s : Nat} (h2 : rrF t 1 0 s < wnS t s) : rrO t 1 (s + 1) = some s := by
  unfold rrF at h2
  simp only [rrO]
  rcases e : rrO t 1 s with _ | f
  · rw [e] at h2
    simp only []; rw [if_pos h2]
  · rw [e] at h2
    simp only [] at h2 ⊢
    rw [if_pos ⟨by omega, by rw [if_neg (by decide)]; exact h2⟩]
theorem co_n {t : Nat → Int32} {s : Nat} (h : ¬ rrF t 1 0 s < wnS t s) : rrO t 1 (s + 1) = rrO t 1 s := by
  unfold rrF at h
  simp only [rrO]
  rcases e : rrO t 1 s with _ | f
  · rw [e] at h
    simp only [] at h ⊢
    rw [if_neg h]
  · rw [e] at h
    simp only [] at h ⊢
    rw [if_neg (fun z => h (by have := z.2; rw [if_neg (by decide)] at this; exact this))]
theorem rrF_s {t : Nat → Int32} {wh d k s : Nat} (h : rrO t wh k = some s) : rrF t wh d k = wnS t s := by unfold rrF; rw [h]
theorem rrF_e {t : Nat → Int32} {wh d k k' : Nat} (h : rrO t wh k' = rrO t wh k) : rrF t wh d k' = rrF t wh d k := by unfold rrF; rw [h]
def frF (w : Nat → Nat → Int32) (wh k : Nat) : Int32 := match frO w wh k with
  | none => 0
  | some f => rkV w wh f
theorem fr_y {w : Nat → Nat → Int32} {wh l : Nat} (h : frO w wh l = none ∨ frF w wh l < rkV w wh l) : frO w wh (l + 1) = some l := by
  unfold frF at h
  simp only [frO]
  rcases e : frO w wh l with _ | f
  · rfl
  · rw [e] at h
    rcases h with h | h
    · cases h
    · simp only []; rw [if_pos h]
theorem fr_n {w : Nat → Nat → Int32} {wh l : Nat} (h1 : ¬ frO w wh l = none) (h : ¬ frF w wh l < rkV w wh l) : frO w wh (l + 1) = frO w wh l := by
  unfold frF at h
  simp only [frO]
  rcases e : frO w wh l with _ | f
  · exact absurd e h1
  · rw [e] at h
    simp only [] at h ⊢
    rw [if_neg h]
theorem frF_s {w : Nat → Nat → Int32} {wh k s : Nat} (h : frO w wh k = some s) : frF w wh k = rkV w wh s := by unfold frF; rw [h]
theorem frF_e {w : Nat → Nat → Int32} {wh k k' : Nat} (h : frO w wh k' = frO w wh k) : frF w wh k' = frF w wh k := by unfold frF; rw [h]
theorem frO_m1 {w : Nat → Nat → Int32} {wh k : Nat} (hk : k ≤ 8) : (o2i (frO w wh k) = -1) = (frO w wh k = none) := o2i_m1 (fun p hp => by have := frO_lt _ _ hp; omega)
theorem rrO_m1 {t : Nat → Int32} {wh k : Nat} (hk : k ≤ 8) : (o2i (rrO t wh k) = -1) = (rrO t wh k = none) := o2i_m1 (fun p hp => by have := rrO_lt _ _ hp; omega)
def chK (w : Nat → Nat → Int32) : Nat → Int32
  | 0 => 0
  | l + 1 => chK w l + hsK (w 8) l 8
theorem ch_has {w : Nat → Nat → Int32} : ∀ n, chK w n = hasS (w 8) (8 * n) := by
  intro n
  induction n with
  | zero => rfl
  | succ n ih =>
    show chK w n + hsK (w 8) n 8 = hasS (w 8) (8 * n + 8)
    rw [ih]
    have key : ∀ k, hasS (w 8) (8 * n) + hsK (w 8) n k = hasS (w 8) (8 * n + k) := by
      intro k
      induction k with
      | zero => show _ + (0 : Int32) = _; rw [Int32.add_zero]; rfl
      | succ k ih2 =>
        show _ + (hsK (w 8) n k + w 8 (8 * n + k)) = hasS (w 8) (8 * n + k) + w 8 (8 * n + k)
        rw [← Int32.add_assoc, ih2]
    exact key 8

set_option maxRecDepth 100000 in
theorem c_X4_countWhoLike (b : Nat) (hb : j_ob ΛX b 4) (n : Nat) (w : Nat → Nat → Int32) (μ : j_M) (hS : SQ μ b w n) (hW : WI w n) (so : Nat) (hso : so < 8) : Ct yX4_countWhoLike cX4_countWhoLike 4 (some .int) 1 ΛX [.ref b, .int (nI so)] μ (pI fun r μ2 => r = (nI (cK (fun l => likB (w 3 l) (w 5 l) (nI so)) n)) ∧ μ2 = μ) := by
  refine Ct.go (lo := [some (.ref b), some (.int (nI so)), none, none]) (by decide) (Nat.le_of_ble_eq_true rfl) rfl rfl (fun X F => ?_)
  have F : Fx X cX4_countWhoLike RX4 1 (some .int) ΛX := F
  have hn8 := hS.2
  refine v_iconst (pc := 0) (v := nI 0) F dX4_countWhoLike_0 (by decide) ?_
  refine v_istore_n (pc := 1) (lo' := [some (.ref _), some (.int _), some (.int _), _]) F dX4_countWhoLike_1 rfl rfl (Nat.le_of_ble_eq_true rfl) rfl ?_
  refine v_iconst (pc := 2) (v := nI 0) F dX4_countWhoLike_2 (by decide) ?_
  refine v_istore_n (pc := 3) (lo' := [some (.ref _), some (.int _), some (.int _), some (.int _)]) F dX4_countWhoLike_3 rfl rfl (Nat.le_of_ble_eq_true rfl) rfl ?_
  refine j_up n (fun k => V X _ 4 [some (.ref b), some (.int (nI so)), some (.int (nI ((cK (fun l => likB (w 3 l) (w 5 l) (nI so)) k)))), some (.int (nI k))] [] μ) (fun k hk ih => ?_) 0 (Nat.zero_le _)
  refine v_iload_n (pc := 4) (i := 3) F dX4_countWhoLike_4 rfl rfl ?_
  refine v_aload_n (pc := 5) (i := 0) F dX4_countWhoLike_5 rfl rfl ?_
  refine v_getI (pc := 6) F fX4_44 dX4_countWhoLike_6 rfl hb ?_
  refine v_topE (y := nI n) (hS.1.cnt) ?_
  refine v_icmp_ge (pc := 9) (tgt := 34) F dX4_countWhoLike_9 (by decide) (fun h9_1 => ?_) (fun h9_1 => ?_)
  · rw [nI_leI (by omega) (by omega)] at h9_1
    refine v_iload_n (pc := 34) (i := 2) F dX4_countWhoLike_34 rfl rfl ?_
    refine v_ireturn (pc := 35) F dX4_countWhoLike_35 (rfl) ?_
    have e : k = n := by omega
    subst e
    exact ⟨rfl, rfl⟩
  · rw [nI_leI (by omega) (by omega)] at h9_1
    refine v_iload_n (pc := 12) (i := 2) F dX4_countWhoLike_12 rfl rfl ?_
    refine v_aload_n (pc := 13) (i := 0) F dX4_countWhoLike_13 rfl rfl ?_
    refine v_getR (pc := 14) (o := 3) F fX4_20 dX4_countWhoLike_14 rfl hb ?_
    refine v_topR (y := b + 3) rfl ?_
    refine v_iload_n (pc := 17) (i := 3) F dX4_countWhoLike_17 rfl rfl ?_
    have hkn : k < n := by omega
    obtain ⟨a, ha8, haa⟩ := hW.a hkn
    refine v_aald14N (pc := 18) (k0 := k) (x := b + 5 + 2 * k) F dX4_countWhoLike_18 (lx4_2 hb) (rfl) (by omega) (by decide) (by simp only [j_ro]; first | rfl | omega | (split <;> omega)) ?_
    have ho2 : j_ob ΛX (b + 5 + 2 * k) 3 := by
      have q := lxL (lx4_2 hb) (j := k) (by omega)
      simp only [j_ro] at q
      exact (by first | exact q | (rw [show b + 5 + 2 * k = _ from (by first | rfl | omega)]; exact q))
    refine v_callVI (pc := 19) (As := []) (rest := [_]) (c := 3) F mX3_wanted kX4_74 im_X3_wanted se_X3_wanted dX4_countWhoLike_19 rfl rfl (by decide) (c_X3_wanted _ ho2 k w _ ((hS).1.lk k (by omega))) (by decide) rfl rfl (Nat.le_of_ble_eq_true rfl) ho2 (fun x3 μ3 hp3 => ?_)
    rw [hp3.1, hp3.2]
    refine v_iload_n (pc := 22) (i := 1) F dX4_countWhoLike_22 rfl rfl ?_
    refine v_ishr (pc := 23) F dX4_countWhoLike_23 ?_
    refine v_iconst (pc := 24) (v := nI 1) F dX4_countWhoLike_24 (by decide) ?_
    refine v_iand (pc := 25) F dX4_countWhoLike_25 ?_
    refine v_iadd (pc := 26) F dX4_countWhoLike_26 ?_
    refine v_topE (y := nI ((cK (fun l => likB (w 3 l) (w 5 l) (nI so)) (k + 1)))) (tb_add (P := fun l => likB (w 3 l) (w 5 l) (nI so)) (by rw [haa]; exact wl_val ha8 hso)) ?_
    refine v_istore_n (pc := 27) (lo' := [some (.ref _), some (.int _), some (.int _), some (.int _)]) F dX4_countWhoLike_27 rfl rfl (Nat.le_of_ble_eq_true rfl) rfl ?_
    refine v_iinc (pc := 28) (i := 3) (v := nI (k + 1)) (lo' := [some (.ref _), some (.int _), some (.int _), some (.int _)]) F dX4_countWhoLike_28 rfl (j_inc _) rfl rfl ?_
    refine v_goto (pc := 31) (tgt := 4) F dX4_countWhoLike_31 (by decide) ?_
    exact ih (by omega)

set_option maxRecDepth 100000 in
theorem c_X4_countWithA (b : Nat) (hb : j_ob ΛX b 4) (n : Nat) (w : Nat → Nat → Int32) (μ : j_M) (hS : SQ μ b w n) (so : Int32) : Ct yX4_countWithA cX4_countWithA 4 (some .int) 0 ΛX [.ref b, .int so] μ (pI fun r μ2 => r = (nI (cK (fun l => w 3 l == so) n)) ∧ μ2 = μ) := by
  refine Ct.go (lo := [some (.ref b), some (.int so), none, none]) (by decide) (Nat.le_of_ble_eq_true rfl) rfl rfl (fun X F => ?_)
  have F : Fx X cX4_countWithA RX4 0 (some .int) ΛX := F
  have hn8 := hS.2
  refine v_iconst (pc := 0) (v := nI 0) F dX4_countWithA_0 (by decide) ?_
  refine v_istore_n (pc := 1) (lo' := [some (.ref _), some (.int _), some (.int _), _]) F dX4_countWithA_1 rfl rfl (Nat.le_of_ble_eq_true rfl) rfl ?_
  refine v_iconst (pc := 2) (v := nI 0) F dX4_countWithA_2 (by decide) ?_
  refine v_istore_n (pc := 3) (lo' := [some (.ref _), some (.int _), some (.int _), some (.int _)]) F dX4_countWithA_3 rfl rfl (Nat.le_of_ble_eq_true rfl) rfl ?_
  refine j_up n (fun k => V X _ 4 [some (.ref b), some (.int so), some (.int (nI ((cK (fun l => w 3 l == so) k)))), some (.int (nI k))] [] μ) (fun k hk ih => ?_) 0 (Nat.zero_le _)
  refine v_iload_n (pc := 4) (i := 3) F dX4_countWithA_4 rfl rfl ?_
  refine v_aload_n (pc := 5) (i := 0) F dX4_countWithA_5 rfl rfl ?_
  refine v_getI (pc := 6) F fX4_44 dX4_countWithA_6 rfl hb ?_
  refine v_topE (y := nI n) (hS.1.cnt) ?_
  refine v_icmp_ge (pc := 9) (tgt := 34) F dX4_countWithA_9 (by decide) (fun h9_1 => ?_) (fun h9_1 => ?_)
  · rw [nI_leI (by omega) (by omega)] at h9_1
    refine v_iload_n (pc := 34) (i := 2) F dX4_countWithA_34 rfl rfl ?_
    refine v_ireturn (pc := 35) F dX4_countWithA_35 (rfl) ?_
    have e : k = n := by omega
    subst e
    exact ⟨rfl, rfl⟩
  · rw [nI_leI (by omega) (by omega)] at h9_1
    refine v_aload_n (pc := 12) (i := 0) F dX4_countWithA_12 rfl rfl ?_
    refine v_getR (pc := 13) (o := 3) F fX4_20 dX4_countWithA_13 rfl hb ?_
    refine v_topR (y := b + 3) rfl ?_
    refine v_iload_n (pc := 16) (i := 3) F dX4_countWithA_16 rfl rfl ?_
    refine v_aald14N (pc := 17) (k0 := k) (x := b + 5 + 2 * k) F dX4_countWithA_17 (lx4_2 hb) (rfl) (by omega) (by decide) (by simp only [j_ro]; first | rfl | omega | (split <;> omega)) ?_
    have ho2 : j_ob ΛX (b + 5 + 2 * k) 3 := by
      have q := lxL (lx4_2 hb) (j := k) (by omega)
      simp only [j_ro] at q
      exact (by first | exact q | (rw [show b + 5 + 2 * k = _ from (by first | rfl | omega)]; exact q))
    refine v_getI (pc := 18) F fX4_71 dX4_countWithA_18 rfl ho2 ?_
    refine v_topE (y := (w 3 k)) ((hS.1.lk k (by omega)).a) ?_
    refine v_iload_n (pc := 21) (i := 1) F dX4_countWithA_21 rfl rfl ?_
    refine v_icmp_ne (pc := 22) (tgt := 28) F dX4_countWithA_22 (by decide) (fun hc => ?_) (fun hc => ?_)
    · skip
      refine v_iinc (pc := 28) (i := 3) (v := nI (k + 1)) (lo' := [some (.ref _), some (.int _), some (.int _), some (.int _)]) F dX4_countWithA_28 rfl (j_inc _) rfl rfl ?_
      refine v_goto (pc := 31) (tgt := 4) F dX4_countWithA_31 (by decide) ?_
      have q := ih (by omega)
      first | (rw [cK_t (k := k) (by simpa using hc)] at q; exact q) | (rw [cK_f (k := k) (by simpa using hc)] at q; exact q)
    · skip
      refine v_iinc (pc := 25) (i := 2) (v := nI ((cK (fun l => w 3 l == so) k) + 1)) (lo' := [some (.ref _), some (.int _), some (.int _), some (.int _)]) F dX4_countWithA_25 rfl (j_inc _) rfl rfl ?_
      refine v_iinc (pc := 28) (i := 3) (v := nI (k + 1)) (lo' := [some (.ref _), some (.int _), some (.int _), some (.int _)]) F dX4_countWithA_28 rfl (j_inc _) rfl rfl ?_
      refine v_goto (pc := 31) (tgt := 4) F dX4_countWithA_31 (by decide) ?_
      have q := ih (by omega)
      first | (rw [cK_t (k := k) (by simpa using hc)] at q; exact q) | (rw [cK_f (k := k) (by simpa using hc)] at q; exact q)

set_option maxRecDepth 100000 in
theorem c_X9_sorts (so what : Int32) (μ ν : j_M) (hM : MI ν) (hR : Rel μ ν) : Ct yX9_sorts cX9_sorts 3 (some .int) 3 ΛX [.ref 0, .int so, .int what] μ (pI fun r μ2 => r = (s_sorts so what ν).1 ∧ Rel μ2 (s_sorts so what ν).2) := by
  refine Ct.go (lo := [some (.ref 0), some (.int so), some (.int what)]) (by decide) (Nat.le_of_ble_eq_true rfl) rfl rfl (fun X F => ?_)
  have F : Fx X cX9_sorts RX9 3 (some .int) ΛX := F
  obtain ⟨n, hW, hsh, htp, him⟩ := id hM
  have hn := hW.1
  have hn8 := hW.2.1
  have hnn := nn_eq hn hn8
  have ho := hW.own
  have hpw := j_pw hn8
  have hS : SQ μ 1 ν.1 n := ⟨by have := hR.sc; rwa [hnn] at this, hn8⟩
  rcases inQ_c3 what with rfl | rfl | rfl | hqw
  · skip
    have hqw : inQ 3 (nI 0) = true := by decide
    have hix : ix (nI 0) = 0 := by decide
    have hc0 : (nI 0 = 0) = True := eq_true (by decide)
    have hc1 : (nI 0 = 1) = False := eq_false (by decide)
    have hc2 : (nI 0 = 2) = False := eq_false (by decide)
    refine v_iload_n (pc := 0) (i := 1) F dX9_sorts_0 rfl rfl ?_
    refine v_callSI (pc := 1) (As := [_]) (rest := []) F mX9_isSort kX9_168 sm_X9_isSort dX9_sorts_1 (c_X9_isSort _ _) (by decide) rfl rfl (Nat.le_of_ble_eq_true rfl) (fun x1 μ1 hp1 => ?_)
    rw [hp1.1, hp1.2]
    refine v_if_ne (pc := 4) (tgt := 14) F dX9_sorts_4 (by decide) (fun h4_2 => ?_) (fun h4_2 => ?_)
    · rw [b2i_0] at h4_2
      rw [Classical.not_not] at h4_2
      obtain ⟨k_so, hk_so, he_so⟩ := inR_of (by decide) h4_2
      subst he_so
      have ek_so : ix (nI k_so) = k_so := nI_clamp (by omega)
      refine v_iload_n (pc := 14) (i := 2) F dX9_sorts_14 rfl rfl ?_
      refine v_tin (pc := 15) (tgt := 40) F dX9_sorts_15 (by decide) (by decide) (by rfl) (by decide) ?_
      refine v_aload_n (pc := 40) (i := 0) F dX9_sorts_40 rfl rfl ?_
      refine v_getR (pc := 41) (o := 1) F fX9_12 dX9_sorts_41 rfl lx0 ?_
      refine v_topR (y := 1) rfl ?_
      refine v_getR (pc := 44) (o := 2) F fX9_233 dX9_sorts_44 rfl (lx9_0 lx0) ?_
      refine v_topR (y := 3) rfl ?_
      refine v_iload_n (pc := 47) (i := 1) F dX9_sorts_47 rfl rfl ?_
      refine v_ialdN (pc := 48) (k0 := k_so) F dX9_sorts_48 (lx4_1 (lx9_0 lx0)) (rfl) (by omega) (by decide) ?_
      refine v_topE (y := (pwB ν.1 k_so)) (hS.1.plw k_so (by omega)) ?_
      refine v_callSI (pc := 49) (As := [_]) (rest := []) F mJ6_bitCount_0f7a4 kX9_236 sm_J6_bitCount_0f7a4 dX9_sorts_49 (c_J6_bc _ _ _) (by decide) rfl rfl (Nat.le_of_ble_eq_true rfl) (fun x3 μ3 hp3 => ?_)
      rw [hp3.1, hp3.2, pw_cnt]
      refine v_ireturn (pc := 52) F dX9_sorts_52 (rfl) ?_
      simp only [s_sorts, rj, hnn, hqw, hix, hc0, hc1, hc2, h4_2, ek_so, ↓reduceIte]
      refine ⟨?_, ?_⟩ <;> first | exact trivial | exact rfl | exact hR | exact Rel.rj hM hR (by decide)
    · rw [b2i_0] at h4_2
      refine v_aload_n (pc := 7) (i := 0) F dX9_sorts_7 rfl rfl ?_
      refine v_bipush (pc := 8) (v := (-2)) F dX9_sorts_8 (by decide) ?_
      refine v_callVI (pc := 10) (As := [_]) (rest := []) (c := 9) F mX9_refuse kX9_79 im_X9_refuse se_X9_refuse dX9_sorts_10 rfl rfl (by decide) (c_X9_refuse (-2) 2 (by decide) (by decide) (by decide) _) (by decide) rfl rfl (Nat.le_of_ble_eq_true rfl) lx0 (fun x4 μ4 hp4 => ?_)
      rw [hp4.1, hp4.2]
      refine v_ireturn (pc := 13) F dX9_sorts_13 (rfl) ?_
      simp only [s_sorts, rj, hnn, hqw, hix, hc0, hc1, hc2, h4_2, ↓reduceIte]
      refine ⟨?_, ?_⟩ <;> first | exact trivial | exact rfl | exact hR | exact Rel.rj hM hR (by decide)
  · skip
    have hqw : inQ 3 (nI 1) = true := by decide
    have hix : ix (nI 1) = 1 := by decide
    have hc0 : (nI 1 = 0) = False := eq_false (by decide)
    have hc1 : (nI 1 = 1) = True := eq_true (by decide)
    have hc2 : (nI 1 = 2) = False := eq_false (by decide)
    refine v_iload_n (pc := 0) (i := 1) F dX9_sorts_0 rfl rfl ?_
    refine v_callSI (pc := 1) (As := [_]) (rest := []) F mX9_isSort kX9_168 sm_X9_isSort dX9_sorts_1 (c_X9_isSort _ _) (by decide) rfl rfl (Nat.le_of_ble_eq_true rfl) (fun x5 μ5 hp5 => ?_)
    rw [hp5.1, hp5.2]
    refine v_if_ne (pc := 4) (tgt := 14) F dX9_sorts_4 (by decide) (fun h4_6 => ?_) (fun h4_6 => ?_)
    · rw [b2i_0] at h4_6
      rw [Classical.not_not] at h4_6
      obtain ⟨k_so, hk_so, he_so⟩ := inR_of (by decide) h4_6
      subst he_so
      have ek_so : ix (nI k_so) = k_so := nI_clamp (by omega)
      refine v_iload_n (pc := 14) (i := 2) F dX9_sorts_14 rfl rfl ?_
      refine v_tin (pc := 15) (tgt := 53) F dX9_sorts_15 (by decide) (by decide) (by rfl) (by decide) ?_
      refine v_aload_n (pc := 53) (i := 0) F dX9_sorts_53 rfl rfl ?_
      refine v_getR (pc := 54) (o := 1) F fX9_12 dX9_sorts_54 rfl lx0 ?_
      refine v_topR (y := 1) rfl ?_
      refine v_iload_n (pc := 57) (i := 1) F dX9_sorts_57 rfl rfl ?_
      refine v_callVI (pc := 58) (As := [_]) (rest := []) (c := 4) F mX4_countWhoLike kX9_241 im_X4_countWhoLike se_X4_countWhoLike dX9_sorts_58 rfl rfl (by decide) (c_X4_countWhoLike 1 (lx9_0 lx0) n ν.1 _ (hS) hW k_so (by omega)) (by decide) rfl rfl (Nat.le_of_ble_eq_true rfl) (lx9_0 lx0) (fun x7 μ7 hp7 => ?_)
      rw [hp7.1, hp7.2]
      refine v_ireturn (pc := 61) F dX9_sorts_61 (rfl) ?_
      simp only [s_sorts, rj, hnn, hqw, hix, hc0, hc1, hc2, h4_6, ek_so, ↓reduceIte]
      refine ⟨?_, ?_⟩ <;> first | exact trivial | exact rfl | exact hR | exact Rel.rj hM hR (by decide)
    · rw [b2i_0] at h4_6
      refine v_aload_n (pc := 7) (i := 0) F dX9_sorts_7 rfl rfl ?_
      refine v_bipush (pc := 8) (v := (-2)) F dX9_sorts_8 (by decide) ?_
      refine v_callVI (pc := 10) (As := [_]) (rest := []) (c := 9) F mX9_refuse kX9_79 im_X9_refuse se_X9_refuse dX9_sorts_10 rfl rfl (by decide) (c_X9_refuse (-2) 2 (by decide) (by decide) (by decide) _) (by decide) rfl rfl (Nat.le_of_ble_eq_true rfl) lx0 (fun x8 μ8 hp8 => ?_)
      rw [hp8.1, hp8.2]
      refine v_ireturn (pc := 13) F dX9_sorts_13 (rfl) ?_
      simp only [s_sorts, rj, hnn, hqw, hix, hc0, hc1, hc2, h4_6, ↓reduceIte]
      refine ⟨?_, ?_⟩ <;> first | exact trivial | exact rfl | exact hR | exact Rel.rj hM hR (by decide)
  · skip
    have hqw : inQ 3 (nI 2) = true := by decide
    have hix : ix (nI 2) = 2 := by decide
    have hc0 : (nI 2 = 0) = False := eq_false (by decide)
    have hc1 : (nI 2 = 1) = False := eq_false (by decide)
    have hc2 : (nI 2 = 2) = True := eq_true (by decide)
    refine v_iload_n (pc := 0) (i := 1) F dX9_sorts_0 rfl rfl ?_
    refine v_callSI (pc := 1) (As := [_]) (rest := []) F mX9_isSort kX9_168 sm_X9_isSort dX9_sorts_1 (c_X9_isSort _ _) (by decide) rfl rfl (Nat.le_of_ble_eq_true rfl) (fun x9 μ9 hp9 => ?_)
    rw [hp9.1, hp9.2]
    refine v_if_ne (pc := 4) (tgt := 14) F dX9_sorts_4 (by decide) (fun h4_10 => ?_) (fun h4_10 => ?_)
    · rw [b2i_0] at h4_10
      rw [Classical.not_not] at h4_10
      obtain ⟨k_so, hk_so, he_so⟩ := inR_of (by decide) h4_10
      subst he_so
      have ek_so : ix (nI k_so) = k_so := nI_clamp (by omega)
      refine v_iload_n (pc := 14) (i := 2) F dX9_sorts_14 rfl rfl ?_
      refine v_tin (pc := 15) (tgt := 62) F dX9_sorts_15 (by decide) (by decide) (by rfl) (by decide) ?_
      refine v_aload_n (pc := 62) (i := 0) F dX9_sorts_62 rfl rfl ?_
      refine v_getR (pc := 63) (o := 1) F fX9_12 dX9_sorts_63 rfl lx0 ?_
      refine v_topR (y := 1) rfl ?_
      refine v_iload_n (pc := 66) (i := 1) F dX9_sorts_66 rfl rfl ?_
      refine v_callVI (pc := 67) (As := [_]) (rest := []) (c := 4) F mX4_countWithA kX9_244 im_X4_countWithA se_X4_countWithA dX9_sorts_67 rfl rfl (by decide) (c_X4_countWithA 1 (lx9_0 lx0) n ν.1 _ (hS) _) (by decide) rfl rfl (Nat.le_of_ble_eq_true rfl) (lx9_0 lx0) (fun x11 μ11 hp11 => ?_)
      rw [hp11.1, hp11.2]
      refine v_ireturn (pc := 70) F dX9_sorts_70 (rfl) ?_
      simp only [s_sorts, rj, hnn, hqw, hix, hc0, hc1, hc2, h4_10, ek_so, ↓reduceIte]
      refine ⟨?_, ?_⟩ <;> first | exact trivial | exact rfl | exact hR | exact Rel.rj hM hR (by decide)
    · rw [b2i_0] at h4_10
      refine v_aload_n (pc := 7) (i := 0) F dX9_sorts_7 rfl rfl ?_
      refine v_bipush (pc := 8) (v := (-2)) F dX9_sorts_8 (by decide) ?_
      refine v_callVI (pc := 10) (As := [_]) (rest := []) (c := 9) F mX9_refuse kX9_79 im_X9_refuse se_X9_refuse dX9_sorts_10 rfl rfl (by decide) (c_X9_refuse (-2) 2 (by decide) (by decide) (by decide) _) (by decide) rfl rfl (Nat.le_of_ble_eq_true rfl) lx0 (fun x12 μ12 hp12 => ?_)
      rw [hp12.1, hp12.2]
      refine v_ireturn (pc := 13) F dX9_sorts_13 (rfl) ?_
      simp only [s_sorts, rj, hnn, hqw, hix, hc0, hc1, hc2, h4_10, ↓reduceIte]
      refine ⟨?_, ?_⟩ <;> first | exact trivial | exact rfl | exact hR | exact Rel.rj hM hR (by decide)
  · skip
    refine v_iload_n (pc := 0) (i := 1) F dX9_sorts_0 rfl rfl ?_
    refine v_callSI (pc := 1) (As := [_]) (rest := []) F mX9_isSort kX9_168 sm_X9_isSort dX9_sorts_1 (c_X9_isSort _ _) (by decide) rfl rfl (Nat.le_of_ble_eq_true rfl) (fun x13 μ13 hp13 => ?_)
    rw [hp13.1, hp13.2]
    refine v_if_ne (pc := 4) (tgt := 14) F dX9_sorts_4 (by decide) (fun h4_14 => ?_) (fun h4_14 => ?_)
    · rw [b2i_0] at h4_14
      rw [Classical.not_not] at h4_14
      obtain ⟨k_so, hk_so, he_so⟩ := inR_of (by decide) h4_14
      subst he_so
      have ek_so : ix (nI k_so) = k_so := nI_clamp (by omega)
      refine v_iload_n (pc := 14) (i := 2) F dX9_sorts_14 rfl rfl ?_
      refine v_tout (pc := 15) (tgt := 71) F dX9_sorts_15 (by have := inQ_out (by decide) hqw; omega) (by decide) ?_
      refine v_aload_n (pc := 71) (i := 0) F dX9_sorts_71 rfl rfl ?_
      refine v_bipush (pc := 72) (v := (-2)) F dX9_sorts_72 (by decide) ?_
      refine v_callVI (pc := 74) (As := [_]) (rest := []) (c := 9) F mX9_refuse kX9_79 im_X9_refuse se_X9_refuse dX9_sorts_74 rfl rfl (by decide) (c_X9_refuse (-2) 2 (by decide) (by decide) (by decide) _) (by decide) rfl rfl (Nat.le_of_ble_eq_true rfl) lx0 (fun x15 μ15 hp15 => ?_)
      rw [hp15.1, hp15.2]
      refine v_ireturn (pc := 77) F dX9_sorts_77 (rfl) ?_
      simp only [s_sorts, rj, hnn, hqw, h4_14, ek_so, ↓reduceIte]
      refine ⟨?_, ?_⟩ <;> first | exact trivial | exact rfl | exact hR | exact Rel.rj hM hR (by decide)
    · rw [b2i_0] at h4_14
      refine v_aload_n (pc := 7) (i := 0) F dX9_sorts_7 rfl rfl ?_
      refine v_bipush (pc := 8) (v := (-2)) F dX9_sorts_8 (by decide) ?_
      refine v_callVI (pc := 10) (As := [_]) (rest := []) (c := 9) F mX9_refuse kX9_79 im_X9_refuse se_X9_refuse dX9_sorts_10 rfl rfl (by decide) (c_X9_refuse (-2) 2 (by decide) (by decide) (by decide) _) (by decide) rfl rfl (Nat.le_of_ble_eq_true rfl) lx0 (fun x16 μ16 hp16 => ?_)
      rw [hp16.1, hp16.2]
      refine v_ireturn (pc := 13) F dX9_sorts_13 (rfl) ?_
      simp only [s_sorts, rj, hnn, hqw, h4_14, ↓reduceIte]
      refine ⟨?_, ?_⟩ <;> first | exact trivial | exact rfl | exact hR | exact Rel.rj hM hR (by decide)

set_option maxRecDepth 100000 in
theorem c_X4_rarestSort (b : Nat) (hb : j_ob ΛX b 4) (n : Nat) (w : Nat → Nat → Int32) (μ : j_M) (hS : SQ μ b w n)  : Ct yX4_rarestSort cX4_rarestSort 5 (some .int) 1 ΛX [.ref b] μ (pI fun r μ2 => r = (o2i (rrO (w 1) 0 8)) ∧ μ2 = μ) := by
  refine Ct.go (lo := [some (.ref b), none, none, none, none]) (by decide) (Nat.le_of_ble_eq_true rfl) rfl rfl (fun X F => ?_)
  have F : Fx X cX4_rarestSort RX4 1 (some .int) ΛX := F
  refine v_iconst (pc := 0) (v := (-1)) F dX4_rarestSort_0 (by decide) ?_
  refine v_istore_n (pc := 1) (lo' := [some (.ref _), some (.int _), _, _, _]) F dX4_rarestSort_1 rfl rfl (Nat.le_of_ble_eq_true rfl) rfl ?_
  refine v_bipush (pc := 2) (v := nI 13) F dX4_rarestSort_2 (by decide) ?_
  refine v_istore_n (pc := 4) (lo' := [some (.ref _), some (.int _), some (.int _), _, _]) F dX4_rarestSort_4 rfl rfl (Nat.le_of_ble_eq_true rfl) rfl ?_
  refine v_iconst (pc := 5) (v := nI 0) F dX4_rarestSort_5 (by decide) ?_
  refine v_istore_n (pc := 6) (lo' := [some (.ref _), some (.int _), some (.int _), some (.int _), _]) F dX4_rarestSort_6 rfl rfl (Nat.le_of_ble_eq_true rfl) rfl ?_
  refine j_up 8 (fun k => V X _ 7 [some (.ref b), some (.int ((o2i (rrO (w 1) 0 k)))), some (.int (nI ((rrF (w 1) 0 13 k)))), some (.int (nI k)), none] [] μ) (fun k hk ih => ?_) 0 (Nat.zero_le _)
  refine v_iload_n (pc := 7) (i := 3) F dX4_rarestSort_7 rfl rfl ?_
  refine v_bipush (pc := 8) (v := nI 8) F dX4_rarestSort_8 (by decide) ?_
  refine v_icmp_ge (pc := 10) (tgt := 46) F dX4_rarestSort_10 (by decide) (fun h10_1 => ?_) (fun h10_1 => ?_)
  · rw [nI_leI (by omega) (by omega)] at h10_1
    refine v_iload_n (pc := 46) (i := 1) F dX4_rarestSort_46 rfl rfl ?_
    refine v_ireturn (pc := 47) F dX4_rarestSort_47 (rfl) ?_
    have e : k = 8 := by omega
    subst e
    exact ⟨rfl, rfl⟩
  · rw [nI_leI (by omega) (by omega)] at h10_1
    have hw12 := wnS_le (t := w 1) (s := k)
    have hr13 := rrF_le (t := w 1) (wh := 0) (d := 13) (k := k) (by decide)
    refine v_aload_n (pc := 13) (i := 0) F dX4_rarestSort_13 rfl rfl ?_
    refine v_getR (pc := 14) (o := 2) F fX4_15 dX4_rarestSort_14 rfl hb ?_
    refine v_topR (y := b + 2) rfl ?_
    refine v_iload_n (pc := 17) (i := 3) F dX4_rarestSort_17 rfl rfl ?_
    refine v_ialdN (pc := 18) (k0 := k) F dX4_rarestSort_18 (lx4_1 hb) (rfl) (by omega) (by decide) ?_
    refine v_topE (y := (pwB w k)) (hS.1.plw k (by omega)) ?_
    refine v_callSI (pc := 19) (As := [_]) (rest := []) F mJ6_bitCount_0f7a4 kX4_104 sm_J6_bitCount_0f7a4 dX4_rarestSort_19 (c_J6_bc _ _ _) (by decide) rfl rfl (Nat.le_of_ble_eq_true rfl) (fun x2 μ2 hp2 => ?_)
    rw [hp2.1, hp2.2, pw_cnt]
    refine v_istore (pc := 22) (lo' := [some (.ref _), some (.int _), some (.int _), some (.int _), some (.int _)]) F dX4_rarestSort_22 rfl (Nat.le_of_ble_eq_true rfl) rfl ?_
    refine v_iload (pc := 24) (i := 4) F dX4_rarestSort_24 rfl ?_
    refine v_if_le (pc := 26) (tgt := 40) F dX4_rarestSort_26 (by decide) (fun h1 => ?_) (fun h1 => ?_)
    · rw [j_le0 (by omega)] at h1
      have h1 : ¬ 0 < wnS (w 1) k := by omega
      refine v_iinc (pc := 40) (i := 3) (v := nI (k + 1)) (lo' := [some (.ref _), some (.int _), some (.int _), some (.int _), some (.int _)]) F dX4_rarestSort_40 rfl (j_inc _) rfl rfl ?_
      refine v_goto (pc := 43) (tgt := 7) F dX4_rarestSort_43 (by decide) ?_
      refine v_drop (i := 4) (lo' := [some (.ref _), some (.int _), some (.int _), some (.int _), _]) rfl ?_
      have q := ih (by omega)
      have e1 := (ra_n (t := w 1) (s := k) (by first | exact fun z => h1 z.1 | exact fun z => h2 z.2))
      rw [rrF_e e1, e1] at q
      exact q
    · rw [j_le0 (by omega)] at h1
      have h1 : 0 < wnS (w 1) k := by omega
      refine v_iload (pc := 29) (i := 4) F dX4_rarestSort_29 rfl ?_
      refine v_iload_n (pc := 31) (i := 2) F dX4_rarestSort_31 rfl rfl ?_
      refine v_icmp_ge (pc := 32) (tgt := 40) F dX4_rarestSort_32 (by decide) (fun h2 => ?_) (fun h2 => ?_)
      · rw [nI_leI (by omega) (by omega)] at h2
        have h2 : ¬ wnS (w 1) k < rrF (w 1) 0 13 k := by omega
        refine v_iinc (pc := 40) (i := 3) (v := nI (k + 1)) (lo' := [some (.ref _), some (.int _), some (.int _), some (.int _), some (.int _)]) F dX4_rarestSort_40 rfl (j_inc _) rfl rfl ?_
        refine v_goto (pc := 43) (tgt := 7) F dX4_rarestSort_43 (by decide) ?_
        refine v_drop (i := 4) (lo' := [some (.ref _), some (.int _), some (.int _), some (.int _), _]) rfl ?_
        have q := ih (by omega)
        have e1 := (ra_n (t := w 1) (s := k) (by first | exact fun z => h1 z.1 | exact fun z => h2 z.2))
        rw [rrF_e e1, e1] at q
        exact q
      · rw [nI_leI (by omega) (by omega)] at h2
        have h2 : wnS (w 1) k < rrF (w 1) 0 13 k := by omega
        refine v_iload_n (pc := 35) (i := 3) F dX4_rarestSort_35 rfl rfl ?_
        refine v_istore_n (pc := 36) (lo' := [some (.ref _), some (.int _), some (.int _), some (.int _), some (.int _)]) F dX4_rarestSort_36 rfl rfl (Nat.le_of_ble_eq_true rfl) rfl ?_
        refine v_iload (pc := 37) (i := 4) F dX4_rarestSort_37 rfl ?_
        refine v_istore_n (pc := 39) (lo' := [some (.ref _), some (.int _), some (.int _), some (.int _), some (.int _)]) F dX4_rarestSort_39 rfl rfl (Nat.le_of_ble_eq_true rfl) rfl ?_
        refine v_iinc (pc := 40) (i := 3) (v := nI (k + 1)) (lo' := [some (.ref _), some (.int _), some (.int _), some (.int _), some (.int _)]) F dX4_rarestSort_40 rfl (j_inc _) rfl rfl ?_
        refine v_goto (pc := 43) (tgt := 7) F dX4_rarestSort_43 (by decide) ?_
        refine v_drop (i := 4) (lo' := [some (.ref _), some (.int _), some (.int _), some (.int _), _]) rfl ?_
        have q := ih (by omega)
        have e1 := ra_y h1 h2
        rw [rrF_s e1, e1] at q
        exact q

set_option maxRecDepth 100000 in
theorem c_X4_commonestSort (b : Nat) (hb : j_ob ΛX b 4) (n : Nat) (w : Nat → Nat → Int32) (μ : j_M) (hS : SQ μ b w n)  : Ct yX4_commonestSort cX4_commonestSort 5 (some .int) 1 ΛX [.ref b] μ (pI fun r μ2 => r = (o2i (rrO (w 1) 1 8)) ∧ μ2 = μ) := by
  refine Ct.go (lo := [some (.ref b), none, none, none, none]) (by decide) (Nat.le_of_ble_eq_true rfl) rfl rfl (fun X F => ?_)
  have F : Fx X cX4_commonestSort RX4 1 (some .int) ΛX := F
  refine v_iconst (pc := 0) (v := (-1)) F dX4_commonestSort_0 (by decide) ?_
  refine v_istore_n (pc := 1) (lo' := [some (.ref _), some (.int _), _, _, _]) F dX4_commonestSort_1 rfl rfl (Nat.le_of_ble_eq_true rfl) rfl ?_
  refine v_iconst (pc := 2) (v := nI 0) F dX4_commonestSort_2 (by decide) ?_
  refine v_istore_n (pc := 3) (lo' := [some (.ref _), some (.int _), some (.int _), _, _]) F dX4_commonestSort_3 rfl rfl (Nat.le_of_ble_eq_true rfl) rfl ?_
  refine v_iconst (pc := 4) (v := nI 0) F dX4_commonestSort_4 (by decide) ?_
  refine v_istore_n (pc := 5) (lo' := [some (.ref _), some (.int _), some (.int _), some (.int _), _]) F dX4_commonestSort_5 rfl rfl (Nat.le_of_ble_eq_true rfl) rfl ?_
  refine j_up 8 (fun k => V X _ 6 [some (.ref b), some (.int ((o2i (rrO (w 1) 1 k)))), some (.int (nI ((rrF (w 1) 1 0 k)))), some (.int (nI k)), none] [] μ) (fun k hk ih => ?_) 0 (Nat.zero_le _)
  refine v_iload_n (pc := 6) (i := 3) F dX4_commonestSort_6 rfl rfl ?_
  refine v_bipush (pc := 7) (v := nI 8) F dX4_commonestSort_7 (by decide) ?_
  refine v_icmp_ge (pc := 9) (tgt := 40) F dX4_commonestSort_9 (by decide) (fun h9_1 => ?_) (fun h9_1 => ?_)
  · rw [nI_leI (by omega) (by omega)] at h9_1
    refine v_iload_n (pc := 40) (i := 1) F dX4_commonestSort_40 rfl rfl ?_
    refine v_ireturn (pc := 41) F dX4_commonestSort_41 (rfl) ?_
    have e : k = 8 := by omega
    subst e
    exact ⟨rfl, rfl⟩
  · rw [nI_leI (by omega) (by omega)] at h9_1
    have hw12 := wnS_le (t := w 1) (s := k)
    have hr13 := rrF_le (t := w 1) (wh := 1) (d := 0) (k := k) (by decide)
    refine v_aload_n (pc := 12) (i := 0) F dX4_commonestSort_12 rfl rfl ?_
    refine v_getR (pc := 13) (o := 2) F fX4_15 dX4_commonestSort_13 rfl hb ?_
    refine v_topR (y := b + 2) rfl ?_
    refine v_iload_n (pc := 16) (i := 3) F dX4_commonestSort_16 rfl rfl ?_
    refine v_ialdN (pc := 17) (k0 := k) F dX4_commonestSort_17 (lx4_1 hb) (rfl) (by omega) (by decide) ?_
    refine v_topE (y := (pwB w k)) (hS.1.plw k (by omega)) ?_
    refine v_callSI (pc := 18) (As := [_]) (rest := []) F mJ6_bitCount_0f7a4 kX4_104 sm_J6_bitCount_0f7a4 dX4_commonestSort_18 (c_J6_bc _ _ _) (by decide) rfl rfl (Nat.le_of_ble_eq_true rfl) (fun x2 μ2 hp2 => ?_)
    rw [hp2.1, hp2.2, pw_cnt]
    refine v_istore (pc := 21) (lo' := [some (.ref _), some (.int _), some (.int _), some (.int _), some (.int _)]) F dX4_commonestSort_21 rfl (Nat.le_of_ble_eq_true rfl) rfl ?_
    refine v_iload (pc := 23) (i := 4) F dX4_commonestSort_23 rfl ?_
    refine v_iload_n (pc := 25) (i := 2) F dX4_commonestSort_25 rfl rfl ?_
    refine v_icmp_le (pc := 26) (tgt := 34) F dX4_commonestSort_26 (by decide) (fun h2 => ?_) (fun h2 => ?_)
    · rw [nI_leI (by omega) (by omega)] at h2
      have h2 : ¬ rrF (w 1) 1 0 k < wnS (w 1) k := by omega
      refine v_iinc (pc := 34) (i := 3) (v := nI (k + 1)) (lo' := [some (.ref _), some (.int _), some (.int _), some (.int _), some (.int _)]) F dX4_commonestSort_34 rfl (j_inc _) rfl rfl ?_
      refine v_goto (pc := 37) (tgt := 6) F dX4_commonestSort_37 (by decide) ?_
      refine v_drop (i := 4) (lo' := [some (.ref _), some (.int _), some (.int _), some (.int _), _]) rfl ?_
      have q := ih (by omega)
      have e1 := (co_n (t := w 1) (s := k) h2)
      rw [rrF_e e1, e1] at q
      exact q
    · rw [nI_leI (by omega) (by omega)] at h2
      have h2 : rrF (w 1) 1 0 k < wnS (w 1) k := by omega
      refine v_iload_n (pc := 29) (i := 3) F dX4_commonestSort_29 rfl rfl ?_
      refine v_istore_n (pc := 30) (lo' := [some (.ref _), some (.int _), some (.int _), some (.int _), some (.int _)]) F dX4_commonestSort_30 rfl rfl (Nat.le_of_ble_eq_true rfl) rfl ?_
      refine v_iload (pc := 31) (i := 4) F dX4_commonestSort_31 rfl ?_
      refine v_istore_n (pc := 33) (lo' := [some (.ref _), some (.int _), some (.int _), some (.int _), some (.int _)]) F dX4_commonestSort_33 rfl rfl (Nat.le_of_ble_eq_true rfl) rfl ?_
      refine v_iinc (pc := 34) (i := 3) (v := nI (k + 1)) (lo' := [some (.ref _), some (.int _), some (.int _), some (.int _), some (.int _)]) F dX4_commonestSort_34 rfl (j_inc _) rfl rfl ?_
      refine v_goto (pc := 37) (tgt := 6) F dX4_commonestSort_37 (by decide) ?_
      refine v_drop (i := 4) (lo' := [some (.ref _), some (.int _), some (.int _), some (.int _), _]) rfl ?_
      have q := ih (by omega)
      have e1 := co_y h2
      rw [rrF_s e1, e1] at q
      exact q

set_option maxRecDepth 100000 in
theorem c_X9_rare (what : Int32) (μ ν : j_M) (hM : MI ν) (hR : Rel μ ν) : Ct yX9_rare cX9_rare 3 (some .int) 2 ΛX [.ref 0, .int what] μ (pI fun r μ2 => r = (s_rare what ν).1 ∧ Rel μ2 (s_rare what ν).2) := by
  refine Ct.go (lo := [some (.ref 0), some (.int what), none]) (by decide) (Nat.le_of_ble_eq_true rfl) rfl rfl (fun X F => ?_)
  have F : Fx X cX9_rare RX9 2 (some .int) ΛX := F
  obtain ⟨n, hW, hsh, htp, him⟩ := id hM
  have hn := hW.1
  have hn8 := hW.2.1
  have hnn := nn_eq hn hn8
  have ho := hW.own
  have hpw := j_pw hn8
  have hS : SQ μ 1 ν.1 n := ⟨by have := hR.sc; rwa [hnn] at this, hn8⟩
  rcases inQ_c2 what with rfl | rfl | hqw
  · skip
    have hqw : inQ 2 (nI 0) = true := by decide
    have hix : ix (nI 0) = 0 := by decide
    refine v_iload_n (pc := 0) (i := 1) F dX9_rare_0 rfl rfl ?_
    refine v_if_eq (pc := 1) (tgt := 16) F dX9_rare_1 (by decide) (fun h1_1 => ?_) (fun h1_1 => ?_)
    · rw [j_eq0 (by omega)] at h1_1
      refine v_iload_n (pc := 16) (i := 1) F dX9_rare_16 rfl rfl ?_
      refine v_if_ne (pc := 17) (tgt := 30) F dX9_rare_17 (by decide) (fun h17_2 => ?_) (fun h17_2 => ?_)
      · rw [j_eq0 (by omega)] at h17_2
        exact absurd h17_2 (by decide)
      · rw [j_eq0 (by omega)] at h17_2
        refine v_aload_n (pc := 20) (i := 0) F dX9_rare_20 rfl rfl ?_
        refine v_getR (pc := 21) (o := 1) F fX9_12 dX9_rare_21 rfl lx0 ?_
        refine v_topR (y := 1) rfl ?_
        refine v_callVI (pc := 24) (As := []) (rest := []) (c := 4) F mX4_rarestSort kX9_247 im_X4_rarestSort se_X4_rarestSort dX9_rare_24 rfl rfl (by decide) (c_X4_rarestSort 1 (lx9_0 lx0) n ν.1 _ (hS)) (by decide) rfl rfl (Nat.le_of_ble_eq_true rfl) (lx9_0 lx0) (fun x3 μ3 hp3 => ?_)
        rw [hp3.1, hp3.2]
        rcases hrr : rrO (ν.1 1) 0 8 with _ | f0
        · skip
          refine v_topE (y := -1) rfl ?_
          refine v_goto (pc := 27) (tgt := 37) F dX9_rare_27 (by decide) ?_
          refine v_istore_n (pc := 37) (lo' := [some (.ref _), some (.int _), some (.int _)]) F dX9_rare_37 rfl rfl (Nat.le_of_ble_eq_true rfl) rfl ?_
          refine v_iload_n (pc := 38) (i := 2) F dX9_rare_38 rfl rfl ?_
          refine v_iconst (pc := 39) (v := (-1)) F dX9_rare_39 (by decide) ?_
          refine v_icmp_ne (pc := 40) (tgt := 52) F dX9_rare_40 (by decide) (fun h40_4 => ?_) (fun h40_4 => ?_)
          · skip
            exact absurd rfl h40_4
          · skip
            refine v_aload_n (pc := 43) (i := 0) F dX9_rare_43 rfl rfl ?_
            refine v_bipush (pc := 44) (v := (-5)) F dX9_rare_44 (by decide) ?_
            refine v_callVI (pc := 46) (As := [_]) (rest := []) (c := 9) F mX9_refuse kX9_79 im_X9_refuse se_X9_refuse dX9_rare_46 rfl rfl (by decide) (c_X9_refuse (-5) 5 (by decide) (by decide) (by decide) _) (by decide) rfl rfl (Nat.le_of_ble_eq_true rfl) lx0 (fun x5 μ5 hp5 => ?_)
            rw [hp5.1, hp5.2]
            refine v_goto (pc := 49) (tgt := 53) F dX9_rare_49 (by decide) ?_
            refine v_ireturn (pc := 53) F dX9_rare_53 (rfl) ?_
            simp only [s_rare, rj, hnn, hqw, hix, h1_1, h17_2, hrr, h40_4, ↓reduceIte]
            refine ⟨?_, ?_⟩ <;> first | exact trivial | exact rfl | exact hR | exact Rel.rj hM hR (by decide)
        · skip
          have hf0 := rrO_lt _ _ hrr
          refine v_topE (y := nI f0) rfl ?_
          refine v_goto (pc := 27) (tgt := 37) F dX9_rare_27 (by decide) ?_
          refine v_istore_n (pc := 37) (lo' := [some (.ref _), some (.int _), some (.int _)]) F dX9_rare_37 rfl rfl (Nat.le_of_ble_eq_true rfl) rfl ?_
          refine v_iload_n (pc := 38) (i := 2) F dX9_rare_38 rfl rfl ?_
          refine v_iconst (pc := 39) (v := (-1)) F dX9_rare_39 (by decide) ?_
          refine v_icmp_ne (pc := 40) (tgt := 52) F dX9_rare_40 (by decide) (fun h40_6 => ?_) (fun h40_6 => ?_)
          · rw [j_nm1 (by omega)] at h40_6
            refine v_iload_n (pc := 52) (i := 2) F dX9_rare_52 rfl rfl ?_
            refine v_ireturn (pc := 53) F dX9_rare_53 (rfl) ?_
            simp only [s_rare, rj, hnn, hqw, hix, h1_1, h17_2, hrr, h40_6, ↓reduceIte]
            refine ⟨?_, ?_⟩ <;> first | exact trivial | exact rfl | exact hR | exact Rel.rj hM hR (by decide)
          · rw [j_nm1 (by omega)] at h40_6
            exact h40_6.elim
    · rw [j_eq0 (by omega)] at h1_1
      exact absurd h1_1 (by decide)
  · skip
    have hqw : inQ 2 (nI 1) = true := by decide
    have hix : ix (nI 1) = 1 := by decide
    refine v_iload_n (pc := 0) (i := 1) F dX9_rare_0 rfl rfl ?_
    refine v_if_eq (pc := 1) (tgt := 16) F dX9_rare_1 (by decide) (fun h1_7 => ?_) (fun h1_7 => ?_)
    · rw [j_eq0 (by omega)] at h1_7
      exact absurd h1_7 (by decide)
    · rw [j_eq0 (by omega)] at h1_7
      refine v_iload_n (pc := 4) (i := 1) F dX9_rare_4 rfl rfl ?_
      refine v_iconst (pc := 5) (v := nI 1) F dX9_rare_5 (by decide) ?_
      refine v_icmp_eq (pc := 6) (tgt := 16) F dX9_rare_6 (by decide) (fun h6_8 => ?_) (fun h6_8 => ?_)
      · rw [nI_eq (by omega) (by omega)] at h6_8
        refine v_iload_n (pc := 16) (i := 1) F dX9_rare_16 rfl rfl ?_
        refine v_if_ne (pc := 17) (tgt := 30) F dX9_rare_17 (by decide) (fun h17_9 => ?_) (fun h17_9 => ?_)
        · rw [j_eq0 (by omega)] at h17_9
          refine v_aload_n (pc := 30) (i := 0) F dX9_rare_30 rfl rfl ?_
          refine v_getR (pc := 31) (o := 1) F fX9_12 dX9_rare_31 rfl lx0 ?_
          refine v_topR (y := 1) rfl ?_
          refine v_callVI (pc := 34) (As := []) (rest := []) (c := 4) F mX4_commonestSort kX9_251 im_X4_commonestSort se_X4_commonestSort dX9_rare_34 rfl rfl (by decide) (c_X4_commonestSort 1 (lx9_0 lx0) n ν.1 _ (hS)) (by decide) rfl rfl (Nat.le_of_ble_eq_true rfl) (lx9_0 lx0) (fun x10 μ10 hp10 => ?_)
          rw [hp10.1, hp10.2]
          rcases hrr : rrO (ν.1 1) 1 8 with _ | f0
          · skip
            refine v_topE (y := -1) rfl ?_
            refine v_istore_n (pc := 37) (lo' := [some (.ref _), some (.int _), some (.int _)]) F dX9_rare_37 rfl rfl (Nat.le_of_ble_eq_true rfl) rfl ?_
            refine v_iload_n (pc := 38) (i := 2) F dX9_rare_38 rfl rfl ?_
            refine v_iconst (pc := 39) (v := (-1)) F dX9_rare_39 (by decide) ?_
            refine v_icmp_ne (pc := 40) (tgt := 52) F dX9_rare_40 (by decide) (fun h40_11 => ?_) (fun h40_11 => ?_)
            · skip
              exact absurd rfl h40_11
            · skip
              refine v_aload_n (pc := 43) (i := 0) F dX9_rare_43 rfl rfl ?_
              refine v_bipush (pc := 44) (v := (-5)) F dX9_rare_44 (by decide) ?_
              refine v_callVI (pc := 46) (As := [_]) (rest := []) (c := 9) F mX9_refuse kX9_79 im_X9_refuse se_X9_refuse dX9_rare_46 rfl rfl (by decide) (c_X9_refuse (-5) 5 (by decide) (by decide) (by decide) _) (by decide) rfl rfl (Nat.le_of_ble_eq_true rfl) lx0 (fun x12 μ12 hp12 => ?_)
              rw [hp12.1, hp12.2]
              refine v_goto (pc := 49) (tgt := 53) F dX9_rare_49 (by decide) ?_
              refine v_ireturn (pc := 53) F dX9_rare_53 (rfl) ?_
              simp only [s_rare, rj, hnn, hqw, hix, h1_7, h6_8, h17_9, hrr, h40_11, ↓reduceIte]
              refine ⟨?_, ?_⟩ <;> first | exact trivial | exact rfl | exact hR | exact Rel.rj hM hR (by decide)
          · skip
            have hf0 := rrO_lt _ _ hrr
            refine v_topE (y := nI f0) rfl ?_
            refine v_istore_n (pc := 37) (lo' := [some (.ref _), some (.int _), some (.int _)]) F dX9_rare_37 rfl rfl (Nat.le_of_ble_eq_true rfl) rfl ?_
            refine v_iload_n (pc := 38) (i := 2) F dX9_rare_38 rfl rfl ?_
            refine v_iconst (pc := 39) (v := (-1)) F dX9_rare_39 (by decide) ?_
            refine v_icmp_ne (pc := 40) (tgt := 52) F dX9_rare_40 (by decide) (fun h40_13 => ?_) (fun h40_13 => ?_)
            · rw [j_nm1 (by omega)] at h40_13
              refine v_iload_n (pc := 52) (i := 2) F dX9_rare_52 rfl rfl ?_
              refine v_ireturn (pc := 53) F dX9_rare_53 (rfl) ?_
              simp only [s_rare, rj, hnn, hqw, hix, h1_7, h6_8, h17_9, hrr, h40_13, ↓reduceIte]
              refine ⟨?_, ?_⟩ <;> first | exact trivial | exact rfl | exact hR | exact Rel.rj hM hR (by decide)
            · rw [j_nm1 (by omega)] at h40_13
              exact h40_13.elim
        · rw [j_eq0 (by omega)] at h17_9
          exact absurd h17_9 (by decide)
      · rw [nI_eq (by omega) (by omega)] at h6_8
        exact absurd h6_8 (by decide)
  · skip
    refine v_iload_n (pc := 0) (i := 1) F dX9_rare_0 rfl rfl ?_
    refine v_if_eq (pc := 1) (tgt := 16) F dX9_rare_1 (by decide) (fun h1_14 => ?_) (fun h1_14 => ?_)
    · skip
      exact absurd (show inQ 2 _ = true by rw [h1_14]; decide) hqw
    · skip
      refine v_iload_n (pc := 4) (i := 1) F dX9_rare_4 rfl rfl ?_
      refine v_iconst (pc := 5) (v := nI 1) F dX9_rare_5 (by decide) ?_
      refine v_icmp_eq (pc := 6) (tgt := 16) F dX9_rare_6 (by decide) (fun h6_15 => ?_) (fun h6_15 => ?_)
      · skip
        exact absurd (show inQ 2 _ = true by rw [h6_15]; decide) hqw
      · skip
        refine v_aload_n (pc := 9) (i := 0) F dX9_rare_9 rfl rfl ?_
        refine v_bipush (pc := 10) (v := (-2)) F dX9_rare_10 (by decide) ?_
        refine v_callVI (pc := 12) (As := [_]) (rest := []) (c := 9) F mX9_refuse kX9_79 im_X9_refuse se_X9_refuse dX9_rare_12 rfl rfl (by decide) (c_X9_refuse (-2) 2 (by decide) (by decide) (by decide) _) (by decide) rfl rfl (Nat.le_of_ble_eq_true rfl) lx0 (fun x16 μ16 hp16 => ?_)
        rw [hp16.1, hp16.2]
        refine v_ireturn (pc := 15) F dX9_rare_15 (rfl) ?_
        simp only [s_rare, rj, hnn, hqw, h1_14, h6_15, ↓reduceIte]
        refine ⟨?_, ?_⟩ <;> first | exact trivial | exact rfl | exact hR | exact Rel.rj hM hR (by decide)

set_option maxRecDepth 100000 in
theorem c_X4_measure0 (x : Nat) (hx : j_ob ΛX x 3) (l : Nat) (w : Nat → Nat → Int32) (μ : j_M) (hL : LK μ x w l)  : Ct yX4_measure cX4_measure 2 (some .int) 1 ΛX [.ref x, .int (nI 0)] μ (pI fun r μ2 => r = (rkV w 0 l) ∧ μ2 = μ) := by
  refine Ct.go (lo := [some (.ref x), some (.int (nI 0))]) (by decide) (Nat.le_of_ble_eq_true rfl) rfl rfl (fun X F => ?_)
  have F : Fx X cX4_measure RX4 1 (some .int) ΛX := F
  refine v_iload_n (pc := 0) (i := 1) F dX4_measure_0 rfl rfl ?_
  refine v_lookup (pc := 1) (tgt := 28) (off := 27) F dX4_measure_1 (by decide) (by decide) (by decide) ?_
  refine v_aload_n (pc := 28) (i := 0) F dX4_measure_28 rfl rfl ?_
  refine v_getI (pc := 29) F fX4_68 dX4_measure_29 rfl hx ?_
  refine v_topE (y := (w 4 l)) (hL.g) ?_
  refine v_ineg (pc := 32) F dX4_measure_32 ?_
  refine v_ireturn (pc := 33) F dX4_measure_33 (rfl) ?_
  exact ⟨rfl, rfl⟩

set_option maxRecDepth 100000 in
theorem c_X4_measure1 (x : Nat) (hx : j_ob ΛX x 3) (l : Nat) (w : Nat → Nat → Int32) (μ : j_M) (hL : LK μ x w l)  : Ct yX4_measure cX4_measure 2 (some .int) 1 ΛX [.ref x, .int (nI 1)] μ (pI fun r μ2 => r = (rkV w 1 l) ∧ μ2 = μ) := by
  refine Ct.go (lo := [some (.ref x), some (.int (nI 1))]) (by decide) (Nat.le_of_ble_eq_true rfl) rfl rfl (fun X F => ?_)
  have F : Fx X cX4_measure RX4 1 (some .int) ΛX := F
  refine v_iload_n (pc := 0) (i := 1) F dX4_measure_0 rfl rfl ?_
  refine v_lookup (pc := 1) (tgt := 34) (off := 33) F dX4_measure_1 (by decide) (by decide) (by decide) ?_
  refine v_aload_n (pc := 34) (i := 0) F dX4_measure_34 rfl rfl ?_
  refine v_getI (pc := 35) F fX4_68 dX4_measure_35 rfl hx ?_
  refine v_topE (y := (w 4 l)) (hL.g) ?_
  refine v_ireturn (pc := 38) F dX4_measure_38 (rfl) ?_
  exact ⟨rfl, rfl⟩

set_option maxRecDepth 100000 in
theorem c_X4_measure2 (x : Nat) (hx : j_ob ΛX x 3) (l : Nat) (w : Nat → Nat → Int32) (μ : j_M) (hL : LK μ x w l)  : Ct yX4_measure cX4_measure 2 (some .int) 1 ΛX [.ref x, .int (nI 2)] μ (pI fun r μ2 => r = (rkV w 2 l) ∧ μ2 = μ) := by
  refine Ct.go (lo := [some (.ref x), some (.int (nI 2))]) (by decide) (Nat.le_of_ble_eq_true rfl) rfl rfl (fun X F => ?_)
  have F : Fx X cX4_measure RX4 1 (some .int) ΛX := F
  refine v_iload_n (pc := 0) (i := 1) F dX4_measure_0 rfl rfl ?_
  refine v_lookup (pc := 1) (tgt := 39) (off := 38) F dX4_measure_1 (by decide) (by decide) (by decide) ?_
  refine v_aload_n (pc := 39) (i := 0) F dX4_measure_39 rfl rfl ?_
  refine v_callVI (pc := 40) (As := []) (rest := []) (c := 3) F mX3_countHad kX4_110 im_X3_countHad se_X3_countHad dX4_measure_40 rfl rfl (by decide) (c_X3_countHad _ hx l w _ hL) (by decide) rfl rfl (Nat.le_of_ble_eq_true rfl) hx (fun x1 μ1 hp1 => ?_)
  rw [hp1.1, hp1.2]
  refine v_ireturn (pc := 43) F dX4_measure_43 (rfl) ?_
  exact ⟨rfl, rfl⟩

theorem c_X4_measureW (x : Nat) (hx : j_ob ΛX x 3) (l : Nat) (w : Nat → Nat → Int32) (μ : j_M) (hL : LK μ x w l) (wh : Nat) (hwh : wh < 3) : Ct yX4_measure cX4_measure 2 (some .int) 1 ΛX [.ref x, .int (nI wh)] μ (pI fun r μ2 => r = (rkV w wh l) ∧ μ2 = μ) := by
  obtain rfl | rfl | rfl : wh = 0 ∨ wh = 1 ∨ wh = 2 := by omega
  · exact c_X4_measure0 x hx l w μ hL
  · exact c_X4_measure1 x hx l w μ hL
  · exact c_X4_measure2 x hx l w μ hL

set_option maxRecDepth 100000 in
theorem c_X4_firstWithMost (b : Nat) (hb : j_ob ΛX b 4) (n : Nat) (w : Nat → Nat → Int32) (μ : j_M) (hS : SQ μ b w n) (wh : Nat) (hwh : wh < 3) : Ct yX4_firstWithMost cX4_firstWithMost 6 (some .int) 2 ΛX [.ref b, .int (nI wh)] μ (pI fun r μ2 => r = (o2i (frO w wh n)) ∧ μ2 = μ) := by
  refine Ct.go (lo := [some (.ref b), some (.int (nI wh)), none, none, none, none]) (by decide) (Nat.le_of_ble_eq_true rfl) rfl rfl (fun X F => ?_)
  have F : Fx X cX4_firstWithMost RX4 2 (some .int) ΛX := F
  have hn8 := hS.2
  refine v_iconst (pc := 0) (v := (-1)) F dX4_firstWithMost_0 (by decide) ?_
  refine v_istore_n (pc := 1) (lo' := [some (.ref _), some (.int _), some (.int _), _, _, _]) F dX4_firstWithMost_1 rfl rfl (Nat.le_of_ble_eq_true rfl) rfl ?_
  refine v_iconst (pc := 2) (v := nI 0) F dX4_firstWithMost_2 (by decide) ?_
  refine v_istore_n (pc := 3) (lo' := [some (.ref _), some (.int _), some (.int _), some (.int _), _, _]) F dX4_firstWithMost_3 rfl rfl (Nat.le_of_ble_eq_true rfl) rfl ?_
  refine v_iconst (pc := 4) (v := nI 0) F dX4_firstWithMost_4 (by decide) ?_
  refine v_istore (pc := 5) (lo' := [some (.ref _), some (.int _), some (.int _), some (.int _), some (.int _), _]) F dX4_firstWithMost_5 rfl (Nat.le_of_ble_eq_true rfl) rfl ?_
  refine j_up n (fun k => V X _ 7 [some (.ref b), some (.int (nI wh)), some (.int ((o2i (frO w wh k)))), some (.int ((frF w wh k))), some (.int (nI k)), none] [] μ) (fun k hk ih => ?_) 0 (Nat.zero_le _)
  refine v_iload (pc := 7) (i := 4) F dX4_firstWithMost_7 rfl ?_
  refine v_aload_n (pc := 9) (i := 0) F dX4_firstWithMost_9 rfl rfl ?_
  refine v_getI (pc := 10) F fX4_44 dX4_firstWithMost_10 rfl hb ?_
  refine v_topE (y := nI n) (hS.1.cnt) ?_
  refine v_icmp_ge (pc := 13) (tgt := 52) F dX4_firstWithMost_13 (by decide) (fun h13_1 => ?_) (fun h13_1 => ?_)
  · rw [nI_leI (by omega) (by omega)] at h13_1
    refine v_iload_n (pc := 52) (i := 2) F dX4_firstWithMost_52 rfl rfl ?_
    refine v_ireturn (pc := 53) F dX4_firstWithMost_53 (rfl) ?_
    have e : k = n := by omega
    subst e
    exact ⟨rfl, rfl⟩
  · rw [nI_leI (by omega) (by omega)] at h13_1
    refine v_aload_n (pc := 16) (i := 0) F dX4_firstWithMost_16 rfl rfl ?_
    refine v_getR (pc := 17) (o := 3) F fX4_20 dX4_firstWithMost_17 rfl hb ?_
    refine v_topR (y := b + 3) rfl ?_
    refine v_iload (pc := 20) (i := 4) F dX4_firstWithMost_20 rfl ?_
    refine v_aald14N (pc := 22) (k0 := k) (x := b + 5 + 2 * k) F dX4_firstWithMost_22 (lx4_2 hb) (rfl) (by omega) (by decide) (by simp only [j_ro]; first | rfl | omega | (split <;> omega)) ?_
    have ho2 : j_ob ΛX (b + 5 + 2 * k) 3 := by
      have q := lxL (lx4_2 hb) (j := k) (by omega)
      simp only [j_ro] at q
      exact (by first | exact q | (rw [show b + 5 + 2 * k = _ from (by first | rfl | omega)]; exact q))
    refine v_iload_n (pc := 23) (i := 1) F dX4_firstWithMost_23 rfl rfl ?_
    refine v_callSI (pc := 24) (As := [_, _]) (rest := []) F mX4_measure kX4_113 sm_X4_measure dX4_firstWithMost_24 (c_X4_measureW _ ho2 k w _ ((hS).1.lk k (by omega)) wh hwh) (by decide) rfl rfl (Nat.le_of_ble_eq_true rfl) (fun x3 μ3 hp3 => ?_)
    rw [hp3.1, hp3.2]
    refine v_istore (pc := 27) (lo' := [some (.ref _), some (.int _), some (.int _), some (.int _), some (.int _), some (.int _)]) F dX4_firstWithMost_27 rfl (Nat.le_of_ble_eq_true rfl) rfl ?_
    refine v_iload_n (pc := 29) (i := 2) F dX4_firstWithMost_29 rfl rfl ?_
    refine v_iconst (pc := 30) (v := (-1)) F dX4_firstWithMost_30 (by decide) ?_
    refine v_icmp_eq (pc := 31) (tgt := 40) F dX4_firstWithMost_31 (by decide) (fun h1 => ?_) (fun h1 => ?_)
    · rw [frO_m1 (by omega)] at h1
      refine v_iload (pc := 40) (i := 4) F dX4_firstWithMost_40 rfl ?_
      refine v_istore_n (pc := 42) (lo' := [some (.ref _), some (.int _), some (.int _), some (.int _), some (.int _), some (.int _)]) F dX4_firstWithMost_42 rfl rfl (Nat.le_of_ble_eq_true rfl) rfl ?_
      refine v_iload (pc := 43) (i := 5) F dX4_firstWithMost_43 rfl ?_
      refine v_istore_n (pc := 45) (lo' := [some (.ref _), some (.int _), some (.int _), some (.int _), some (.int _), some (.int _)]) F dX4_firstWithMost_45 rfl rfl (Nat.le_of_ble_eq_true rfl) rfl ?_
      refine v_iinc (pc := 46) (i := 4) (v := nI (k + 1)) (lo' := [some (.ref _), some (.int _), some (.int _), some (.int _), some (.int _), some (.int _)]) F dX4_firstWithMost_46 rfl (j_inc _) rfl rfl ?_
      refine v_goto (pc := 49) (tgt := 7) F dX4_firstWithMost_49 (by decide) ?_
      refine v_drop (i := 5) (lo' := [some (.ref _), some (.int _), some (.int _), some (.int _), some (.int _), _]) rfl ?_
      have q := ih (by omega)
      have e1 := fr_y (w := w) (wh := wh) (l := k) (by first | exact Or.inl h1 | exact Or.inr (Int32.not_le.mp h2))
      rw [frF_s e1, e1] at q
      exact q
    · rw [frO_m1 (by omega)] at h1
      refine v_iload (pc := 34) (i := 5) F dX4_firstWithMost_34 rfl ?_
      refine v_iload_n (pc := 36) (i := 3) F dX4_firstWithMost_36 rfl rfl ?_
      refine v_icmp_le (pc := 37) (tgt := 46) F dX4_firstWithMost_37 (by decide) (fun h2 => ?_) (fun h2 => ?_)
      · skip
        refine v_iinc (pc := 46) (i := 4) (v := nI (k + 1)) (lo' := [some (.ref _), some (.int _), some (.int _), some (.int _), some (.int _), some (.int _)]) F dX4_firstWithMost_46 rfl (j_inc _) rfl rfl ?_
        refine v_goto (pc := 49) (tgt := 7) F dX4_firstWithMost_49 (by decide) ?_
        refine v_drop (i := 5) (lo' := [some (.ref _), some (.int _), some (.int _), some (.int _), some (.int _), _]) rfl ?_
        have q := ih (by omega)
        have e1 := fr_n (w := w) (wh := wh) (l := k) h1 (Int32.not_lt.mpr h2)
        rw [frF_e e1, e1] at q
        exact q
      · skip
        refine v_iload (pc := 40) (i := 4) F dX4_firstWithMost_40 rfl ?_
        refine v_istore_n (pc := 42) (lo' := [some (.ref _), some (.int _), some (.int _), some (.int _), some (.int _), some (.int _)]) F dX4_firstWithMost_42 rfl rfl (Nat.le_of_ble_eq_true rfl) rfl ?_
        refine v_iload (pc := 43) (i := 5) F dX4_firstWithMost_43 rfl ?_
        refine v_istore_n (pc := 45) (lo' := [some (.ref _), some (.int _), some (.int _), some (.int _), some (.int _), some (.int _)]) F dX4_firstWithMost_45 rfl rfl (Nat.le_of_ble_eq_true rfl) rfl ?_
        refine v_iinc (pc := 46) (i := 4) (v := nI (k + 1)) (lo' := [some (.ref _), some (.int _), some (.int _), some (.int _), some (.int _), some (.int _)]) F dX4_firstWithMost_46 rfl (j_inc _) rfl rfl ?_
        refine v_goto (pc := 49) (tgt := 7) F dX4_firstWithMost_49 (by decide) ?_
        refine v_drop (i := 5) (lo' := [some (.ref _), some (.int _), some (.int _), some (.int _), some (.int _), _]) rfl ?_
        have q := ih (by omega)
        have e1 := fr_y (w := w) (wh := wh) (l := k) (by first | exact Or.inl h1 | exact Or.inr (Int32.not_le.mp h2))
        rw [frF_s e1, e1] at q
        exact q

set_option maxRecDepth 100000 in
theorem c_X9_first (what : Int32) (μ ν : j_M) (hM : MI ν) (hR : Rel μ ν) : Ct yX9_first cX9_first 3 (some .int) 3 ΛX [.ref 0, .int what] μ (pI fun r μ2 => r = (s_first what ν).1 ∧ Rel μ2 (s_first what ν).2) := by
  refine Ct.go (lo := [some (.ref 0), some (.int what), none]) (by decide) (Nat.le_of_ble_eq_true rfl) rfl rfl (fun X F => ?_)
  have F : Fx X cX9_first RX9 3 (some .int) ΛX := F
  obtain ⟨n, hW, hsh, htp, him⟩ := id hM
  have hn := hW.1
  have hn8 := hW.2.1
  have hnn := nn_eq hn hn8
  have ho := hW.own
  have hpw := j_pw hn8
  have hS : SQ μ 1 ν.1 n := ⟨by have := hR.sc; rwa [hnn] at this, hn8⟩
  rcases inQ_c3 what with rfl | rfl | rfl | hqw
  · skip
    have hqw : inQ 3 (nI 0) = true := by decide
    have hix : ix (nI 0) = 0 := by decide
    refine v_iload_n (pc := 0) (i := 1) F dX9_first_0 rfl rfl ?_
    refine v_if_lt (pc := 1) (tgt := 9) F dX9_first_1 (by decide) (fun h1_1 => ?_) (fun h1_1 => ?_)
    · rw [j_lt0 (by omega)] at h1_1
      exact absurd h1_1 (by decide)
    · rw [j_lt0 (by omega)] at h1_1
      refine v_iload_n (pc := 4) (i := 1) F dX9_first_4 rfl rfl ?_
      refine v_iconst (pc := 5) (v := nI 2) F dX9_first_5 (by decide) ?_
      refine v_icmp_le (pc := 6) (tgt := 16) F dX9_first_6 (by decide) (fun h6_2 => ?_) (fun h6_2 => ?_)
      · rw [nI_leI (by omega) (by omega)] at h6_2
        refine v_aload_n (pc := 16) (i := 0) F dX9_first_16 rfl rfl ?_
        refine v_getR (pc := 17) (o := 1) F fX9_12 dX9_first_17 rfl lx0 ?_
        refine v_topR (y := 1) rfl ?_
        refine v_iload_n (pc := 20) (i := 1) F dX9_first_20 rfl rfl ?_
        refine v_callVI (pc := 21) (As := [_]) (rest := []) (c := 4) F mX4_firstWithMost kX9_254 im_X4_firstWithMost se_X4_firstWithMost dX9_first_21 rfl rfl (by decide) (c_X4_firstWithMost 1 (lx9_0 lx0) n ν.1 _ (hS) 0 (by decide)) (by decide) rfl rfl (Nat.le_of_ble_eq_true rfl) (lx9_0 lx0) (fun x3 μ3 hp3 => ?_)
        rw [hp3.1, hp3.2]
        rcases hfr : frO ν.1 0 n with _ | f0
        · skip
          refine v_topE (y := -1) rfl ?_
          refine v_istore_n (pc := 24) (lo' := [some (.ref _), some (.int _), some (.int _)]) F dX9_first_24 rfl rfl (Nat.le_of_ble_eq_true rfl) rfl ?_
          refine v_iload_n (pc := 25) (i := 2) F dX9_first_25 rfl rfl ?_
          refine v_iconst (pc := 26) (v := (-1)) F dX9_first_26 (by decide) ?_
          refine v_icmp_ne (pc := 27) (tgt := 39) F dX9_first_27 (by decide) (fun h27_4 => ?_) (fun h27_4 => ?_)
          · skip
            exact absurd rfl h27_4
          · skip
            refine v_aload_n (pc := 30) (i := 0) F dX9_first_30 rfl rfl ?_
            refine v_bipush (pc := 31) (v := (-5)) F dX9_first_31 (by decide) ?_
            refine v_callVI (pc := 33) (As := [_]) (rest := []) (c := 9) F mX9_refuse kX9_79 im_X9_refuse se_X9_refuse dX9_first_33 rfl rfl (by decide) (c_X9_refuse (-5) 5 (by decide) (by decide) (by decide) _) (by decide) rfl rfl (Nat.le_of_ble_eq_true rfl) lx0 (fun x5 μ5 hp5 => ?_)
            rw [hp5.1, hp5.2]
            refine v_goto (pc := 36) (tgt := 40) F dX9_first_36 (by decide) ?_
            refine v_ireturn (pc := 40) F dX9_first_40 (rfl) ?_
            simp only [s_first, rj, hnn, hqw, hix, h1_1, h6_2, hfr, h27_4, ↓reduceIte]
            refine ⟨?_, ?_⟩ <;> first | exact trivial | exact rfl | exact hR | exact Rel.rj hM hR (by decide)
        · skip
          have hf0 := frO_lt _ _ hfr
          refine v_topE (y := nI f0) rfl ?_
          refine v_istore_n (pc := 24) (lo' := [some (.ref _), some (.int _), some (.int _)]) F dX9_first_24 rfl rfl (Nat.le_of_ble_eq_true rfl) rfl ?_
          refine v_iload_n (pc := 25) (i := 2) F dX9_first_25 rfl rfl ?_
          refine v_iconst (pc := 26) (v := (-1)) F dX9_first_26 (by decide) ?_
          refine v_icmp_ne (pc := 27) (tgt := 39) F dX9_first_27 (by decide) (fun h27_6 => ?_) (fun h27_6 => ?_)
          · rw [j_nm1 (by omega)] at h27_6
            refine v_iload_n (pc := 39) (i := 2) F dX9_first_39 rfl rfl ?_
            refine v_ireturn (pc := 40) F dX9_first_40 (rfl) ?_
            simp only [s_first, rj, hnn, hqw, hix, h1_1, h6_2, hfr, h27_6, ↓reduceIte]
            refine ⟨?_, ?_⟩ <;> first | exact trivial | exact rfl | exact hR | exact Rel.rj hM hR (by decide)
          · rw [j_nm1 (by omega)] at h27_6
            exact h27_6.elim
      · rw [nI_leI (by omega) (by omega)] at h6_2
        exact absurd h6_2 (by decide)
  · skip
    have hqw : inQ 3 (nI 1) = true := by decide
    have hix : ix (nI 1) = 1 := by decide
    refine v_iload_n (pc := 0) (i := 1) F dX9_first_0 rfl rfl ?_
    refine v_if_lt (pc := 1) (tgt := 9) F dX9_first_1 (by decide) (fun h1_7 => ?_) (fun h1_7 => ?_)
    · rw [j_lt0 (by omega)] at h1_7
      exact absurd h1_7 (by decide)
    · rw [j_lt0 (by omega)] at h1_7
      refine v_iload_n (pc := 4) (i := 1) F dX9_first_4 rfl rfl ?_
      refine v_iconst (pc := 5) (v := nI 2) F dX9_first_5 (by decide) ?_
      refine v_icmp_le (pc := 6) (tgt := 16) F dX9_first_6 (by decide) (fun h6_8 => ?_) (fun h6_8 => ?_)
      · rw [nI_leI (by omega) (by omega)] at h6_8
        refine v_aload_n (pc := 16) (i := 0) F dX9_first_16 rfl rfl ?_
        refine v_getR (pc := 17) (o := 1) F fX9_12 dX9_first_17 rfl lx0 ?_
        refine v_topR (y := 1) rfl ?_
        refine v_iload_n (pc := 20) (i := 1) F dX9_first_20 rfl rfl ?_
        refine v_callVI (pc := 21) (As := [_]) (rest := []) (c := 4) F mX4_firstWithMost kX9_254 im_X4_firstWithMost se_X4_firstWithMost dX9_first_21 rfl rfl (by decide) (c_X4_firstWithMost 1 (lx9_0 lx0) n ν.1 _ (hS) 1 (by decide)) (by decide) rfl rfl (Nat.le_of_ble_eq_true rfl) (lx9_0 lx0) (fun x9 μ9 hp9 => ?_)
        rw [hp9.1, hp9.2]
        rcases hfr : frO ν.1 1 n with _ | f0
        · skip
          refine v_topE (y := -1) rfl ?_
          refine v_istore_n (pc := 24) (lo' := [some (.ref _), some (.int _), some (.int _)]) F dX9_first_24 rfl rfl (Nat.le_of_ble_eq_true rfl) rfl ?_
          refine v_iload_n (pc := 25) (i := 2) F dX9_first_25 rfl rfl ?_
          refine v_iconst (pc := 26) (v := (-1)) F dX9_first_26 (by decide) ?_
          refine v_icmp_ne (pc := 27) (tgt := 39) F dX9_first_27 (by decide) (fun h27_10 => ?_) (fun h27_10 => ?_)
          · skip
            exact absurd rfl h27_10
          · skip
            refine v_aload_n (pc := 30) (i := 0) F dX9_first_30 rfl rfl ?_
            refine v_bipush (pc := 31) (v := (-5)) F dX9_first_31 (by decide) ?_
            refine v_callVI (pc := 33) (As := [_]) (rest := []) (c := 9) F mX9_refuse kX9_79 im_X9_refuse se_X9_refuse dX9_first_33 rfl rfl (by decide) (c_X9_refuse (-5) 5 (by decide) (by decide) (by decide) _) (by decide) rfl rfl (Nat.le_of_ble_eq_true rfl) lx0 (fun x11 μ11 hp11 => ?_)
            rw [hp11.1, hp11.2]
            refine v_goto (pc := 36) (tgt := 40) F dX9_first_36 (by decide) ?_
            refine v_ireturn (pc := 40) F dX9_first_40 (rfl) ?_
            simp only [s_first, rj, hnn, hqw, hix, h1_7, h6_8, hfr, h27_10, ↓reduceIte]
            refine ⟨?_, ?_⟩ <;> first | exact trivial | exact rfl | exact hR | exact Rel.rj hM hR (by decide)
        · skip
          have hf0 := frO_lt _ _ hfr
          refine v_topE (y := nI f0) rfl ?_
          refine v_istore_n (pc := 24) (lo' := [some (.ref _), some (.int _), some (.int _)]) F dX9_first_24 rfl rfl (Nat.le_of_ble_eq_true rfl) rfl ?_
          refine v_iload_n (pc := 25) (i := 2) F dX9_first_25 rfl rfl ?_
          refine v_iconst (pc := 26) (v := (-1)) F dX9_first_26 (by decide) ?_
          refine v_icmp_ne (pc := 27) (tgt := 39) F dX9_first_27 (by decide) (fun h27_12 => ?_) (fun h27_12 => ?_)
          · rw [j_nm1 (by omega)] at h27_12
            refine v_iload_n (pc := 39) (i := 2) F dX9_first_39 rfl rfl ?_
            refine v_ireturn (pc := 40) F dX9_first_40 (rfl) ?_
            simp only [s_first, rj, hnn, hqw, hix, h1_7, h6_8, hfr, h27_12, ↓reduceIte]
            refine ⟨?_, ?_⟩ <;> first | exact trivial | exact rfl | exact hR | exact Rel.rj hM hR (by decide)
          · rw [j_nm1 (by omega)] at h27_12
            exact h27_12.elim
      · rw [nI_leI (by omega) (by omega)] at h6_8
        exact absurd h6_8 (by decide)
  · skip
    have hqw : inQ 3 (nI 2) = true := by decide
    have hix : ix (nI 2) = 2 := by decide
    refine v_iload_n (pc := 0) (i := 1) F dX9_first_0 rfl rfl ?_
    refine v_if_lt (pc := 1) (tgt := 9) F dX9_first_1 (by decide) (fun h1_13 => ?_) (fun h1_13 => ?_)
    · rw [j_lt0 (by omega)] at h1_13
      exact absurd h1_13 (by decide)
    · rw [j_lt0 (by omega)] at h1_13
      refine v_iload_n (pc := 4) (i := 1) F dX9_first_4 rfl rfl ?_
      refine v_iconst (pc := 5) (v := nI 2) F dX9_first_5 (by decide) ?_
      refine v_icmp_le (pc := 6) (tgt := 16) F dX9_first_6 (by decide) (fun h6_14 => ?_) (fun h6_14 => ?_)
      · rw [nI_leI (by omega) (by omega)] at h6_14
        refine v_aload_n (pc := 16) (i := 0) F dX9_first_16 rfl rfl ?_
        refine v_getR (pc := 17) (o := 1) F fX9_12 dX9_first_17 rfl lx0 ?_
        refine v_topR (y := 1) rfl ?_
        refine v_iload_n (pc := 20) (i := 1) F dX9_first_20 rfl rfl ?_
        refine v_callVI (pc := 21) (As := [_]) (rest := []) (c := 4) F mX4_firstWithMost kX9_254 im_X4_firstWithMost se_X4_firstWithMost dX9_first_21 rfl rfl (by decide) (c_X4_firstWithMost 1 (lx9_0 lx0) n ν.1 _ (hS) 2 (by decide)) (by decide) rfl rfl (Nat.le_of_ble_eq_true rfl) (lx9_0 lx0) (fun x15 μ15 hp15 => ?_)
        rw [hp15.1, hp15.2]
        rcases hfr : frO ν.1 2 n with _ | f0
        · skip
          refine v_topE (y := -1) rfl ?_
          refine v_istore_n (pc := 24) (lo' := [some (.ref _), some (.int _), some (.int _)]) F dX9_first_24 rfl rfl (Nat.le_of_ble_eq_true rfl) rfl ?_
          refine v_iload_n (pc := 25) (i := 2) F dX9_first_25 rfl rfl ?_
          refine v_iconst (pc := 26) (v := (-1)) F dX9_first_26 (by decide) ?_
          refine v_icmp_ne (pc := 27) (tgt := 39) F dX9_first_27 (by decide) (fun h27_16 => ?_) (fun h27_16 => ?_)
          · skip
            exact absurd rfl h27_16
          · skip
            refine v_aload_n (pc := 30) (i := 0) F dX9_first_30 rfl rfl ?_
            refine v_bipush (pc := 31) (v := (-5)) F dX9_first_31 (by decide) ?_
            refine v_callVI (pc := 33) (As := [_]) (rest := []) (c := 9) F mX9_refuse kX9_79 im_X9_refuse se_X9_refuse dX9_first_33 rfl rfl (by decide) (c_X9_refuse (-5) 5 (by decide) (by decide) (by decide) _) (by decide) rfl rfl (Nat.le_of_ble_eq_true rfl) lx0 (fun x17 μ17 hp17 => ?_)
            rw [hp17.1, hp17.2]
            refine v_goto (pc := 36) (tgt := 40) F dX9_first_36 (by decide) ?_
            refine v_ireturn (pc := 40) F dX9_first_40 (rfl) ?_
            simp only [s_first, rj, hnn, hqw, hix, h1_13, h6_14, hfr, h27_16, ↓reduceIte]
            refine ⟨?_, ?_⟩ <;> first | exact trivial | exact rfl | exact hR | exact Rel.rj hM hR (by decide)
        · skip
          have hf0 := frO_lt _ _ hfr
          refine v_topE (y := nI f0) rfl ?_
          refine v_istore_n (pc := 24) (lo' := [some (.ref _), some (.int _), some (.int _)]) F dX9_first_24 rfl rfl (Nat.le_of_ble_eq_true rfl) rfl ?_
          refine v_iload_n (pc := 25) (i := 2) F dX9_first_25 rfl rfl ?_
          refine v_iconst (pc := 26) (v := (-1)) F dX9_first_26 (by decide) ?_
          refine v_icmp_ne (pc := 27) (tgt := 39) F dX9_first_27 (by decide) (fun h27_18 => ?_) (fun h27_18 => ?_)
          · rw [j_nm1 (by omega)] at h27_18
            refine v_iload_n (pc := 39) (i := 2) F dX9_first_39 rfl rfl ?_
            refine v_ireturn (pc := 40) F dX9_first_40 (rfl) ?_
            simp only [s_first, rj, hnn, hqw, hix, h1_13, h6_14, hfr, h27_18, ↓reduceIte]
            refine ⟨?_, ?_⟩ <;> first | exact trivial | exact rfl | exact hR | exact Rel.rj hM hR (by decide)
          · rw [j_nm1 (by omega)] at h27_18
            exact h27_18.elim
      · rw [nI_leI (by omega) (by omega)] at h6_14
        exact absurd h6_14 (by decide)
  · skip
    refine v_iload_n (pc := 0) (i := 1) F dX9_first_0 rfl rfl ?_
    refine v_if_lt (pc := 1) (tgt := 9) F dX9_first_1 (by decide) (fun ha => ?_) (fun ha => ?_)
    · skip
      refine v_aload_n (pc := 9) (i := 0) F dX9_first_9 rfl rfl ?_
      refine v_bipush (pc := 10) (v := (-2)) F dX9_first_10 (by decide) ?_
      refine v_callVI (pc := 12) (As := [_]) (rest := []) (c := 9) F mX9_refuse kX9_79 im_X9_refuse se_X9_refuse dX9_first_12 rfl rfl (by decide) (c_X9_refuse (-2) 2 (by decide) (by decide) (by decide) _) (by decide) rfl rfl (Nat.le_of_ble_eq_true rfl) lx0 (fun x20 μ20 hp20 => ?_)
      rw [hp20.1, hp20.2]
      refine v_ireturn (pc := 15) F dX9_first_15 (rfl) ?_
      simp only [s_first, rj, hnn, hqw, ha, ↓reduceIte]
      refine ⟨?_, ?_⟩ <;> first | exact trivial | exact rfl | exact hR | exact Rel.rj hM hR (by decide)
    · skip
      refine v_iload_n (pc := 4) (i := 1) F dX9_first_4 rfl rfl ?_
      refine v_iconst (pc := 5) (v := nI 2) F dX9_first_5 (by decide) ?_
      refine v_icmp_le (pc := 6) (tgt := 16) F dX9_first_6 (by decide) (fun hb => ?_) (fun hb => ?_)
      · skip
        exact absurd (inQ_def.mpr ⟨Int32.not_lt.mp ha, by rcases nI_of ha with ⟨k0, q1, rfl⟩; exact (nI_ltI q1 (by decide)).mpr (by have := (nI_leI q1 (by decide)).mp hb; omega)⟩) hqw
      · skip
        refine v_aload_n (pc := 9) (i := 0) F dX9_first_9 rfl rfl ?_
        refine v_bipush (pc := 10) (v := (-2)) F dX9_first_10 (by decide) ?_
        refine v_callVI (pc := 12) (As := [_]) (rest := []) (c := 9) F mX9_refuse kX9_79 im_X9_refuse se_X9_refuse dX9_first_12 rfl rfl (by decide) (c_X9_refuse (-2) 2 (by decide) (by decide) (by decide) _) (by decide) rfl rfl (Nat.le_of_ble_eq_true rfl) lx0 (fun x22 μ22 hp22 => ?_)
        rw [hp22.1, hp22.2]
        refine v_ireturn (pc := 15) F dX9_first_15 (rfl) ?_
        simp only [s_first, rj, hnn, hqw, ha, hb, ↓reduceIte]
        refine ⟨?_, ?_⟩ <;> first | exact trivial | exact rfl | exact hR | exact Rel.rj hM hR (by decide)
