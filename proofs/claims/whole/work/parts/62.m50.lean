/-! the class: swaps settled, counted, carried out -/
theorem sw_bits {w : Nat → Nat → Int32} {n r : Nat} (hn : n ≤ 8) : bK (swK w n r).1 n &&& (bK (rnR w (swK w n r).1 n) n ^^^ (-1)) = bK (swK w n (r + 1)).1 n := tb_ext (fun i hi => by
  rw [tb_and, tb_xor, tb_m1 hi, tb_bK (by omega), tb_bK (by omega), tb_bK (by omega)]
  show _ = (decide (i < n) && ((swK w n r).1 i && !(rnR w (swK w n r).1 n i)))
  cases decide (i < n) <;> cases (swK w n r).1 i <;> cases rnR w (swK w n r).1 n i <;> rfl)
theorem bKn_0 {P : Nat → Bool} {n : Nat} (hn : n ≤ 8) (h : bK P n = 0) : ∀ l, l < n → P l = false := fun l hl => by
  have h2 := tb_bK (P := P) (k := n) (by omega) l
  rw [h, tb_0, decide_eq_true hl, Bool.true_and] at h2
  exact h2.symm
theorem cK_0 {P : Nat → Bool} : ∀ {n : Nat}, (∀ l, l < n → P l = false) → cK P n = 0 := by
  intro n
  induction n with
  | zero => intro _; rfl
  | succ n ih => intro h; rw [cK_f (by rw [h n (by omega)]; decide)]; exact ih (fun l hl => h l (by omega))
/-- the round's rings go out, up to the k-th -/
def SR (w : Nat → Nat → Int32) (I : Nat → Bool) (n : Nat) (gt : Nat → Int32) (x k : Nat) (μ μ2 : j_M) : Prop := Fm (PZ x) μ μ2 ∧ (∀ l, l < n → μ2.1 (x + 1) l = nI (wsN w I n l)) ∧ ∀ l, l < n → μ2.1 (x + 2) l = if l < k ∧ rnR w I n l = true then w 7 (wsN w I n l) else gt l
theorem SR_n {w : Nat → Nat → Int32} {I : Nat → Bool} {n : Nat} {gt : Nat → Int32} {x k : Nat} {μ μ2 : j_M} (h : SR w I n gt x k μ μ2) (hr : ¬ rnR w I n k = true) : SR w I n gt x (k + 1) μ μ2 := ⟨h.1, h.2.1, fun l hl => by
  rw [h.2.2 l hl]
  by_cases e : l = k
  · subst e; rw [if_neg (fun z => hr z.2), if_neg (fun z => hr z.2)]
  · by_cases e2 : l < k ∧ rnR w I n l = true
    · rw [if_pos e2, if_pos ⟨by omega, e2.2⟩]
    · rw [if_neg e2, if_neg (fun z => e2 ⟨by omega, z.2⟩)]⟩
theorem SR_y {w : Nat → Nat → Int32} {I : Nat → Bool} {n : Nat} {gt : Nat → Int32} {x k : Nat} {μ μ2 : j_M} (h : SR w I n gt x k μ μ2) (hr : rnR w I n k = true) : SR w I n gt x (k + 1) μ (j_pI μ2 (x + 2) k (w 7 (wsN w I n k))) := ⟨h.1.pI (Or.inr rfl), fun l hl => (j_pI_off (by omega)).trans (h.2.1 l hl), fun l hl => by
  by_cases e : l = k
  · subst e; rw [j_pI_at, if_pos ⟨by omega, hr⟩]
  · rw [j_pI_off (by omega), h.2.2 l hl]
    by_cases e2 : l < k ∧ rnR w I n l = true
    · rw [if_pos e2, if_pos ⟨by omega, e2.2⟩]
    · rw [if_neg e2, if_neg (fun z => e2 ⟨by omega, z.2⟩)]⟩

set_option maxRecDepth 100000 in
theorem c_X6_settleRings (x : Nat) (hx : j_ob ΛX x 6) (b : Nat) (hb : j_ob ΛX b 4) (n : Nat) (w : Nat → Nat → Int32) (μ : j_M) (hS : SQ μ b w n) (hxb : x + 3 ≤ b ∨ b + 21 ≤ x) (inn : Int32) (gt : Nat → Int32) (hg : ∀ l, l < n → μ.1 (x + 2) l = gt l) : Ct yX6_settleRings cX6_settleRings 5 (some .int) 2 ΛX [.ref x, .ref b, .int inn] μ (pI fun r μ2 => r = bK (rnR w (tb inn) n) n ∧ Fm (PZ x) μ μ2 ∧ ∀ l, l < n → μ2.1 (x + 2) l = if (rnR w (tb inn) n) l = true then w 7 (wsN w (tb inn) n l) else gt l) := by
  refine Ct.go (lo := [some (.ref x), some (.ref b), some (.int inn), none, none]) (by decide) (Nat.le_of_ble_eq_true rfl) rfl rfl (fun X F => ?_)
  have F : Fx X cX6_settleRings RX6 2 (some .int) ΛX := F
  have hn8 := hS.2
  refine v_iconst (pc := 0) (v := nI 0) F dX6_settleRings_0 (by decide) ?_
  refine v_istore_n (pc := 1) (lo' := [some (.ref _), some (.ref _), some (.int _), some (.int _), _]) F dX6_settleRings_1 rfl rfl (Nat.le_of_ble_eq_true rfl) rfl ?_
  refine j_up n (fun k => ∀ μ' : j_M, (Fm (fun c _ => c = x + 1) μ μ' ∧ ∀ l, l < k → μ'.1 (x + 1) l = nI (wsN w (tb inn) n l)) → V X _ 2 [some (.ref x), some (.ref b), some (.int inn), some (.int (nI k)), none] [] μ') (fun k hk ih μ' hI => ?_) 0 (Nat.zero_le _) μ (⟨Fm.rf, fun l hl => absurd hl (Nat.not_lt_zero _)⟩)
  refine v_iload_n (pc := 2) (i := 3) F dX6_settleRings_2 rfl rfl ?_
  have hS2 : SQ μ' b w n := SQ_F hS hI.1 (fun c j z => by omega)
  refine v_aload_n (pc := 3) (i := 1) F dX6_settleRings_3 rfl rfl ?_
  refine v_getI (pc := 4) F fX6_34 dX6_settleRings_4 rfl hb ?_
  refine v_topE (y := nI n) (hS2.1.cnt) ?_
  refine v_icmp_ge (pc := 7) (tgt := 29) F dX6_settleRings_7 (by decide) (fun h7_1 => ?_) (fun h7_1 => ?_)
  · rw [nI_leI (by omega) (by omega)] at h7_1
    refine v_iconst (pc := 29) (v := nI 0) F dX6_settleRings_29 (by decide) ?_
    refine v_istore_n (pc := 30) (lo' := [some (.ref _), some (.ref _), some (.int _), some (.int _), _]) F dX6_settleRings_30 rfl rfl (Nat.le_of_ble_eq_true rfl) rfl ?_
    refine v_iconst (pc := 31) (v := nI 0) F dX6_settleRings_31 (by decide) ?_
    refine v_istore (pc := 32) (lo' := [some (.ref _), some (.ref _), some (.int _), some (.int _), some (.int _)]) F dX6_settleRings_32 rfl (Nat.le_of_ble_eq_true rfl) rfl ?_
    have ek : k = n := by omega
    rw [ek] at hI
    refine j_up n (fun j => ∀ μ'' : j_M, SR w (tb inn) n gt x j μ μ'' → V X _ 34 [some (.ref x), some (.ref b), some (.int inn), some (.int ((bK (rnR w (tb inn) n) j))), some (.int (nI j))] [] μ'') (fun j hj ih2 μ'' hJ => ?_) 0 (Nat.zero_le _) μ' ⟨hI.1.mono (fun c j z => Or.inl z), hI.2, fun l hl => by rw [if_neg (fun z => absurd z.1 (Nat.not_lt_zero _))]; exact (hI.1.1 _ _ (by omega)).trans (hg l hl)⟩
    refine v_iload (pc := 34) (i := 4) F dX6_settleRings_34 rfl ?_
    have hS3 : SQ μ'' b w n := SQ_F hS hJ.1 (fun c j z => by omega)
    refine v_aload_n (pc := 36) (i := 1) F dX6_settleRings_36 rfl rfl ?_
    refine v_getI (pc := 37) F fX6_34 dX6_settleRings_37 rfl hb ?_
    refine v_topE (y := nI n) (hS3.1.cnt) ?_
    refine v_icmp_ge (pc := 40) (tgt := 96) F dX6_settleRings_40 (by decide) (fun h40_2 => ?_) (fun h40_2 => ?_)
    · rw [nI_leI (by omega) (by omega)] at h40_2
      refine v_iload_n (pc := 96) (i := 3) F dX6_settleRings_96 rfl rfl ?_
      refine v_ireturn (pc := 97) F dX6_settleRings_97 (rfl) ?_
      have e2 : j = n := by omega
      subst e2
      exact ⟨rfl, hJ.1, fun l hl => by
        rw [hJ.2.2 l hl]
        by_cases c : rnR w (tb inn) j l = true
        · rw [if_pos ⟨hl, c⟩, if_pos c]
        · rw [if_neg (fun z => c z.2), if_neg c]⟩
    · rw [nI_leI (by omega) (by omega)] at h40_2
      refine v_iload_n (pc := 43) (i := 2) F dX6_settleRings_43 rfl rfl ?_
      refine v_iload (pc := 44) (i := 4) F dX6_settleRings_44 rfl ?_
      refine v_ishr (pc := 46) F dX6_settleRings_46 ?_
      refine v_iconst (pc := 47) (v := nI 1) F dX6_settleRings_47 (by decide) ?_
      refine v_iand (pc := 48) F dX6_settleRings_48 ?_
      refine v_if_eq (pc := 49) (tgt := 90) F dX6_settleRings_49 (by decide) (fun hin => ?_) (fun hin => ?_)
      · rw [tb_if (by omega)] at hin
        refine v_iinc (pc := 90) (i := 4) (v := nI (j + 1)) (lo' := [some (.ref _), some (.ref _), some (.int _), some (.int _), some (.int _)]) F dX6_settleRings_90 rfl (j_inc _) rfl rfl ?_
        refine v_goto (pc := 93) (tgt := 34) F dX6_settleRings_93 (by decide) ?_
        have q := ih2 (by omega)
        have hrn : ¬ rnR w (tb inn) n j = true := by exact fun z => hin (rnR_in z)
        rw [bK_f (k := j) hrn] at q
        exact q _ (SR_n hJ hrn)
      · rw [tb_if (by omega)] at hin
        rw [Classical.not_not] at hin
        refine v_aload_n (pc := 52) (i := 0) F dX6_settleRings_52 rfl rfl ?_
        refine v_iload (pc := 53) (i := 4) F dX6_settleRings_53 rfl ?_
        refine v_callVI (pc := 55) (As := [_]) (rest := []) (c := 6) F mX6_isOnRing kX6_42 im_X6_isOnRing se_X6_isOnRing dX6_settleRings_55 rfl rfl (by decide) (c_X6_isOnRing _ hx n hn8 (wsN w (tb inn) n) j (by omega) _ hJ.2.1 (fun j hj => wsN_b hj)) (by decide) rfl rfl (Nat.le_of_ble_eq_true rfl) hx (fun x4 μ4 hp4 => ?_)
        rw [hp4.1, hp4.2]
        refine v_if_eq (pc := 58) (tgt := 90) F dX6_settleRings_58 (by decide) (fun hrg => ?_) (fun hrg => ?_)
        · rw [b2i_0] at hrg
          refine v_iinc (pc := 90) (i := 4) (v := nI (j + 1)) (lo' := [some (.ref _), some (.ref _), some (.int _), some (.int _), some (.int _)]) F dX6_settleRings_90 rfl (j_inc _) rfl rfl ?_
          refine v_goto (pc := 93) (tgt := 34) F dX6_settleRings_93 (by decide) ?_
          have q := ih2 (by omega)
          have hrn : ¬ rnR w (tb inn) n j = true := by rw [← rn_8 hn8 (by omega) hin]; exact hrg
          rw [bK_f (k := j) hrn] at q
          exact q _ (SR_n hJ hrn)
        · rw [b2i_0] at hrg
          rw [Classical.not_not] at hrg
          refine v_aload_n (pc := 61) (i := 0) F dX6_settleRings_61 rfl rfl ?_
          refine v_getR (pc := 62) (o := 2) F fX6_15 dX6_settleRings_62 rfl hx ?_
          refine v_topR (y := x + 2) rfl ?_
          refine v_iload (pc := 65) (i := 4) F dX6_settleRings_65 rfl ?_
          refine v_aload_n (pc := 67) (i := 1) F dX6_settleRings_67 rfl rfl ?_
          refine v_getR (pc := 68) (o := 3) F fX6_46 dX6_settleRings_68 rfl hb ?_
          refine v_topR (y := b + 3) rfl ?_
          refine v_aload_n (pc := 71) (i := 0) F dX6_settleRings_71 rfl rfl ?_
          refine v_getR (pc := 72) (o := 1) F fX6_9 dX6_settleRings_72 rfl hx ?_
          refine v_topR (y := x + 1) rfl ?_
          refine v_iload (pc := 75) (i := 4) F dX6_settleRings_75 rfl ?_
          have hwb := wsN_b (w := w) (I := tb inn) (n := n) (l := j) (by omega)
          refine v_ialdN (pc := 77) (k0 := j) F dX6_settleRings_77 (lx6_0 hx) (rfl) (by omega) (by decide) ?_
          refine v_topE (y := nI ((wsN w (tb inn) n j))) (hJ.2.1 j (by omega)) ?_
          refine v_aald14N (pc := 78) (k0 := (wsN w (tb inn) n j)) (x := b + 5 + 2 * ((wsN w (tb inn) n j))) F dX6_settleRings_78 (lx4_2 hb) (rfl) (by omega) (by decide) (by simp only [j_ro]; first | rfl | omega | (split <;> omega)) ?_
          have ho6 : j_ob ΛX (b + 5 + 2 * ((wsN w (tb inn) n j))) 3 := by
            have q := lxL (lx4_2 hb) (j := (wsN w (tb inn) n j)) (by omega)
            simp only [j_ro] at q
            exact (by first | exact q | (rw [show b + 5 + 2 * ((wsN w (tb inn) n j)) = _ from (by first | rfl | omega)]; exact q))
          refine v_getI (pc := 79) F fX6_50 dX6_settleRings_79 rfl ho6 ?_
          refine v_topE (y := (w 7 ((wsN w (tb inn) n j)))) ((hS3.1.lk ((wsN w (tb inn) n j)) (by omega)).sh) ?_
          refine v_iastN (pc := 82) (k0 := j) F dX6_settleRings_82 (lx6_1 hx) (rfl) (by omega) (by decide) ?_
          refine v_iload_n (pc := 83) (i := 3) F dX6_settleRings_83 rfl rfl ?_
          refine v_iconst (pc := 84) (v := nI 1) F dX6_settleRings_84 (by decide) ?_
          refine v_iload (pc := 85) (i := 4) F dX6_settleRings_85 rfl ?_
          refine v_ishl (pc := 87) F dX6_settleRings_87 ?_
          refine v_ior (pc := 88) F dX6_settleRings_88 ?_
          refine v_istore_n (pc := 89) (lo' := [some (.ref _), some (.ref _), some (.int _), some (.int _), some (.int _)]) F dX6_settleRings_89 rfl rfl (Nat.le_of_ble_eq_true rfl) rfl ?_
          refine v_iinc (pc := 90) (i := 4) (v := nI (j + 1)) (lo' := [some (.ref _), some (.ref _), some (.int _), some (.int _), some (.int _)]) F dX6_settleRings_90 rfl (j_inc _) rfl rfl ?_
          refine v_goto (pc := 93) (tgt := 34) F dX6_settleRings_93 (by decide) ?_
          have q := ih2 (by omega)
          have hrn : rnR w (tb inn) n j = true := by rw [← rn_8 hn8 (by omega) hin]; exact hrg
          rw [bK_t (k := j) hrn] at q
          exact q _ (SR_y hJ hrn)
  · rw [nI_leI (by omega) (by omega)] at h7_1
    refine v_aload_n (pc := 10) (i := 0) F dX6_settleRings_10 rfl rfl ?_
    refine v_getR (pc := 11) (o := 1) F fX6_9 dX6_settleRings_11 rfl hx ?_
    refine v_topR (y := x + 1) rfl ?_
    refine v_iload_n (pc := 14) (i := 3) F dX6_settleRings_14 rfl rfl ?_
    refine v_aload_n (pc := 15) (i := 0) F dX6_settleRings_15 rfl rfl ?_
    refine v_aload_n (pc := 16) (i := 1) F dX6_settleRings_16 rfl rfl ?_
    refine v_iload_n (pc := 17) (i := 3) F dX6_settleRings_17 rfl rfl ?_
    refine v_iload_n (pc := 18) (i := 2) F dX6_settleRings_18 rfl rfl ?_
    refine v_callVI (pc := 19) (As := [_, _, _]) (rest := [_, _]) (c := 6) F mX6_wishOf kX6_38 im_X6_wishOf se_X6_wishOf dX6_settleRings_19 rfl rfl (by decide) (c_X6_wishOf _ hx b hb n w _ (hS2) k (by omega) _) (by decide) rfl rfl (Nat.le_of_ble_eq_true rfl) hx (fun x7 μ7 hp7 => ?_)
    rw [hp7.1, hp7.2]
    refine v_iastN (pc := 22) (k0 := k) F dX6_settleRings_22 (lx6_0 hx) (rfl) (by omega) (by decide) ?_
    refine v_iinc (pc := 23) (i := 3) (v := nI (k + 1)) (lo' := [some (.ref _), some (.ref _), some (.int _), some (.int _), _]) F dX6_settleRings_23 rfl (j_inc _) rfl rfl ?_
    refine v_goto (pc := 26) (tgt := 2) F dX6_settleRings_26 (by decide) ?_
    refine ih (by omega) _ ⟨hI.1.pI rfl, fun l hl => ?_⟩
    by_cases e : l = k
    · subst e; exact j_pI_at
    · rw [j_pI_off (by omega)]; exact hI.2 l (by omega)

/-- behind r rounds -/
def SZ (w : Nat → Nat → Int32) (n x r : Nat) (μ μ2 : j_M) : Prop := Fm (PZ x) μ μ2 ∧ ∀ l, l < n → μ2.1 (x + 2) l = (swK w n r).2 l
theorem SZ_s {w : Nat → Nat → Int32} {n x r : Nat} {μ m m2 : j_M} (hn : n ≤ 8) (h : SZ w n x r μ m) (hF : Fm (PZ x) m m2) (hg : ∀ l, l < n → m2.1 (x + 2) l = if rnR w (tb (bK (swK w n r).1 n)) n l = true then w 7 (wsN w (tb (bK (swK w n r).1 n)) n l) else (swK w n r).2 l) : SZ w n x (r + 1) μ m2 := ⟨h.1.tr hF, fun l hl => by
  have hc : ∀ l, l < n → tb (bK (swK w n r).1 n) l = (swK w n r).1 l := fun l hl => by rw [tb_bK (by omega), decide_eq_true hl, Bool.true_and]
  rw [hg l hl, rnR_congr hc hl, wsN_congr hc]
  rfl⟩
theorem SZ_bits {w : Nat → Nat → Int32} {n r : Nat} (hn : n ≤ 8) : bK (rnR w (tb (bK (swK w n r).1 n)) n) n = bK (rnR w (swK w n r).1 n) n := bK_congr (fun l hl => rnR_congr (fun l hl => by rw [tb_bK (by omega), decide_eq_true hl, Bool.true_and]) hl)

set_option maxRecDepth 100000 in
theorem c_X6_settle (x : Nat) (hx : j_ob ΛX x 6) (b : Nat) (hb : j_ob ΛX b 4) (n : Nat) (w : Nat → Nat → Int32) (μ : j_M) (hS : SQ μ b w n) (hxb : x + 3 ≤ b ∨ b + 21 ≤ x)  : Ct yX6_settle cX6_settle 4 none 3 ΛX [.ref x, .ref b] μ (pV fun μ2 => SZ w n x 8 μ μ2) := by
  refine Ct.go (lo := [some (.ref x), some (.ref b), none, none]) (by decide) (Nat.le_of_ble_eq_true rfl) rfl rfl (fun X F => ?_)
  have F : Fx X cX6_settle RX6 3 none ΛX := F
  have hn8 := hS.2
  refine v_aload_n (pc := 0) (i := 0) F dX6_settle_0 rfl rfl ?_
  refine v_getR (pc := 1) (o := 2) F fX6_15 dX6_settle_1 rfl hx ?_
  refine v_topR (y := x + 2) rfl ?_
  refine v_iconst (pc := 4) (v := (-1)) F dX6_settle_4 (by decide) ?_
  refine v_callSV (pc := 5) (As := [_, _]) (rest := []) F mJ7_fill_53178 kX6_18 sm_J7_fill_53178 dX6_settle_5 (c_J7_fillI _ _ 8 (lx6_1 hx) (by decide) _ _) (by decide) rfl rfl (Nat.le_of_ble_eq_true rfl) (fun μ1 hp1 => ?_)
  rw [hp1]
  have hS1 : SQ (flI μ (x + 2) 8 (-1)) b w n := SQ_F hS (P := fun c _ => c = x + 2) ⟨fun c j z => if_neg (fun y => z y.1), rfl⟩ (fun c j z => by omega)
  refine v_aload_n (pc := 8) (i := 1) F dX6_settle_8 rfl rfl ?_
  refine v_callVI (pc := 9) (As := []) (rest := []) (c := 4) F mX4_bringers kX6_24 im_X4_bringers se_X4_bringers dX6_settle_9 rfl rfl (by decide) (c_X4_bringers b hb n w _ (hS1)) (by decide) rfl rfl (Nat.le_of_ble_eq_true rfl) hb (fun x2 μ2 hp2 => ?_)
  rw [hp2.1, hp2.2]
  refine v_istore_n (pc := 12) (lo' := [some (.ref _), some (.ref _), some (.int _), _]) F dX6_settle_12 rfl rfl (Nat.le_of_ble_eq_true rfl) rfl ?_
  refine v_iconst (pc := 13) (v := nI 0) F dX6_settle_13 (by decide) ?_
  refine v_istore_n (pc := 14) (lo' := [some (.ref _), some (.ref _), some (.int _), some (.int _)]) F dX6_settle_14 rfl rfl (Nat.le_of_ble_eq_true rfl) rfl ?_
  refine j_up 8 (fun k => ∀ μ' : j_M, (SZ w n x k μ μ') → V X _ 15 [some (.ref x), some (.ref b), some (.int ((bK (swK w n k).1 n))), some (.int (nI k))] [] μ') (fun k hk ih μ' hI => ?_) 0 (Nat.zero_le _) (flI μ (x + 2) 8 (-1)) (⟨⟨fun c j z => if_neg (fun y => z (Or.inr y.1)), rfl⟩, fun l hl => if_pos ⟨rfl, by omega⟩⟩)
  refine v_iload_n (pc := 15) (i := 3) F dX6_settle_15 rfl rfl ?_
  refine v_bipush (pc := 16) (v := nI 8) F dX6_settle_16 (by decide) ?_
  refine v_icmp_ge (pc := 18) (tgt := 42) F dX6_settle_18 (by decide) (fun h18_3 => ?_) (fun h18_3 => ?_)
  · rw [nI_leI (by omega) (by omega)] at h18_3
    refine v_return (pc := 42) F dX6_settle_42 ?_
    have e8 : k = 8 := by omega
    subst e8
    exact hI
  · rw [nI_leI (by omega) (by omega)] at h18_3
    refine v_iload_n (pc := 21) (i := 2) F dX6_settle_21 rfl rfl ?_
    refine v_if_eq (pc := 22) (tgt := 42) F dX6_settle_22 (by decide) (fun hz => ?_) (fun hz => ?_)
    · skip
      refine v_return (pc := 42) F dX6_settle_42 ?_
      refine ⟨hI.1, fun l hl => ?_⟩
      rw [hI.2 l hl]
      exact ((sw_stop (cK_0 (bKn_0 hn8 hz)) 8 (by omega) l hl).2).symm
    · skip
      refine v_iload_n (pc := 25) (i := 2) F dX6_settle_25 rfl rfl ?_
      refine v_aload_n (pc := 26) (i := 0) F dX6_settle_26 rfl rfl ?_
      have hS2 : SQ μ' b w n := SQ_F hS hI.1 (fun c j z => by omega)
      refine v_aload_n (pc := 27) (i := 1) F dX6_settle_27 rfl rfl ?_
      refine v_iload_n (pc := 28) (i := 2) F dX6_settle_28 rfl rfl ?_
      refine v_callVI (pc := 29) (As := [_, _]) (rest := [_]) (c := 6) F mX6_settleRings kX6_30 im_X6_settleRings se_X6_settleRings dX6_settle_29 rfl rfl (by decide) (c_X6_settleRings x hx b hb n w _ hS2 hxb _ (swK w n k).2 hI.2) (by decide) rfl rfl (Nat.le_of_ble_eq_true rfl) hx (fun x5 μ5 hp5 => ?_)
      rw [hp5.1, SZ_bits hn8]
      refine v_iconst (pc := 32) (v := (-1)) F dX6_settle_32 (by decide) ?_
      refine v_ixor (pc := 33) F dX6_settle_33 ?_
      refine v_iand (pc := 34) F dX6_settle_34 ?_
      refine v_istore_n (pc := 35) (lo' := [some (.ref _), some (.ref _), some (.int _), some (.int _)]) F dX6_settle_35 rfl rfl (Nat.le_of_ble_eq_true rfl) rfl ?_
      refine v_iinc (pc := 36) (i := 3) (v := nI (k + 1)) (lo' := [some (.ref _), some (.ref _), some (.int _), some (.int _)]) F dX6_settle_36 rfl (j_inc _) rfl rfl ?_
      refine v_goto (pc := 39) (tgt := 15) F dX6_settle_39 (by decide) ?_
      have q := ih (by omega)
      rw [← sw_bits hn8] at q
      exact q _ (SZ_s hn8 hI hp5.2.1 hp5.2.2)

set_option maxRecDepth 100000 in
theorem c_X6_countOthers (x : Nat) (hx : j_ob ΛX x 6) (b : Nat) (hb : j_ob ΛX b 4) (n : Nat) (w : Nat → Nat → Int32) (μ : j_M) (hS : SQ μ b w n) (gv : Nat → Int32) (hg : ∀ l, l < n → μ.1 (x + 2) l = gv l) : Ct yX6_countOthers cX6_countOthers 4 (some .int) 0 ΛX [.ref x, .ref b] μ (pI fun r μ2 => r = (nI (cK (fun l => !(gv l == w 7 l)) n)) ∧ μ2 = μ) := by
  refine Ct.go (lo := [some (.ref x), some (.ref b), none, none]) (by decide) (Nat.le_of_ble_eq_true rfl) rfl rfl (fun X F => ?_)
  have F : Fx X cX6_countOthers RX6 0 (some .int) ΛX := F
  have hn8 := hS.2
  refine v_iconst (pc := 0) (v := nI 0) F dX6_countOthers_0 (by decide) ?_
  refine v_istore_n (pc := 1) (lo' := [some (.ref _), some (.ref _), some (.int _), _]) F dX6_countOthers_1 rfl rfl (Nat.le_of_ble_eq_true rfl) rfl ?_
  refine v_iconst (pc := 2) (v := nI 0) F dX6_countOthers_2 (by decide) ?_
  refine v_istore_n (pc := 3) (lo' := [some (.ref _), some (.ref _), some (.int _), some (.int _)]) F dX6_countOthers_3 rfl rfl (Nat.le_of_ble_eq_true rfl) rfl ?_
  refine j_up n (fun k => V X _ 4 [some (.ref x), some (.ref b), some (.int (nI ((cK (fun l => !(gv l == w 7 l)) k)))), some (.int (nI k))] [] μ) (fun k hk ih => ?_) 0 (Nat.zero_le _)
  refine v_iload_n (pc := 4) (i := 3) F dX6_countOthers_4 rfl rfl ?_
  refine v_aload_n (pc := 5) (i := 1) F dX6_countOthers_5 rfl rfl ?_
  refine v_getI (pc := 6) F fX6_34 dX6_countOthers_6 rfl hb ?_
  refine v_topE (y := nI n) (hS.1.cnt) ?_
  refine v_icmp_ge (pc := 9) (tgt := 39) F dX6_countOthers_9 (by decide) (fun h9_1 => ?_) (fun h9_1 => ?_)
  · rw [nI_leI (by omega) (by omega)] at h9_1
    refine v_iload_n (pc := 39) (i := 2) F dX6_countOthers_39 rfl rfl ?_
    refine v_ireturn (pc := 40) F dX6_countOthers_40 (rfl) ?_
    have e : k = n := by omega
    subst e
    exact ⟨rfl, rfl⟩
  · rw [nI_leI (by omega) (by omega)] at h9_1
    refine v_aload_n (pc := 12) (i := 0) F dX6_countOthers_12 rfl rfl ?_
    refine v_getR (pc := 13) (o := 2) F fX6_15 dX6_countOthers_13 rfl hx ?_
    refine v_topR (y := x + 2) rfl ?_
    refine v_iload_n (pc := 16) (i := 3) F dX6_countOthers_16 rfl rfl ?_
    refine v_ialdN (pc := 17) (k0 := k) F dX6_countOthers_17 (lx6_1 hx) (rfl) (by omega) (by decide) ?_
    refine v_topE (y := (gv k)) (hg k (by omega)) ?_
    refine v_aload_n (pc := 18) (i := 1) F dX6_countOthers_18 rfl rfl ?_
    refine v_getR (pc := 19) (o := 3) F fX6_46 dX6_countOthers_19 rfl hb ?_
    refine v_topR (y := b + 3) rfl ?_
    refine v_iload_n (pc := 22) (i := 3) F dX6_countOthers_22 rfl rfl ?_
    refine v_aald14N (pc := 23) (k0 := k) (x := b + 5 + 2 * k) F dX6_countOthers_23 (lx4_2 hb) (rfl) (by omega) (by decide) (by simp only [j_ro]; first | rfl | omega | (split <;> omega)) ?_
    have ho2 : j_ob ΛX (b + 5 + 2 * k) 3 := by
      have q := lxL (lx4_2 hb) (j := k) (by omega)
      simp only [j_ro] at q
      exact (by first | exact q | (rw [show b + 5 + 2 * k = _ from (by first | rfl | omega)]; exact q))
    refine v_getI (pc := 24) F fX6_50 dX6_countOthers_24 rfl ho2 ?_
    refine v_topE (y := (w 7 k)) ((hS.1.lk k (by omega)).sh) ?_
    refine v_icmp_eq (pc := 27) (tgt := 33) F dX6_countOthers_27 (by decide) (fun hc => ?_) (fun hc => ?_)
    · skip
      refine v_iinc (pc := 33) (i := 3) (v := nI (k + 1)) (lo' := [some (.ref _), some (.ref _), some (.int _), some (.int _)]) F dX6_countOthers_33 rfl (j_inc _) rfl rfl ?_
      refine v_goto (pc := 36) (tgt := 4) F dX6_countOthers_36 (by decide) ?_
      have q := ih (by omega)
      first | (rw [cK_t (k := k) (by simpa using hc)] at q; exact q) | (rw [cK_f (k := k) (by simpa using hc)] at q; exact q)
    · skip
      refine v_iinc (pc := 30) (i := 2) (v := nI ((cK (fun l => !(gv l == w 7 l)) k) + 1)) (lo' := [some (.ref _), some (.ref _), some (.int _), some (.int _)]) F dX6_countOthers_30 rfl (j_inc _) rfl rfl ?_
      refine v_iinc (pc := 33) (i := 3) (v := nI (k + 1)) (lo' := [some (.ref _), some (.ref _), some (.int _), some (.int _)]) F dX6_countOthers_33 rfl (j_inc _) rfl rfl ?_
      refine v_goto (pc := 36) (tgt := 4) F dX6_countOthers_36 (by decide) ?_
      have q := ih (by omega)
      first | (rw [cK_t (k := k) (by simpa using hc)] at q; exact q) | (rw [cK_f (k := k) (by simpa using hc)] at q; exact q)
