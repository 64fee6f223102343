/-! the class: swaps -/
theorem fN_congr {P Q : Nat → Bool} {n : Nat} (h : ∀ l, l < n → P l = Q l) : fN P n = fN Q n := by
  unfold fN
  have key : ∀ L : List Nat, (∀ l ∈ L, P l = Q l) → L.find? P = L.find? Q := by
    intro L
    induction L with
    | nil => intro _; rfl
    | cons a L ih =>
      intro hL
      rw [List.find?_cons, List.find?_cons, hL a List.mem_cons_self, ih (fun l hl => hL l (List.mem_cons_of_mem _ hl))]
  exact key _ (fun l hl => h l (List.mem_range.mp hl))
theorem brO_congr {w : Nat → Nat → Int32} {I J : Nat → Bool} {n : Nat} (h : ∀ l, l < n → I l = J l) (so : Int32) : brO w I n so = brO w J n so := fN_congr (fun l hl => by rw [h l hl])
theorem wsF_congr {w : Nat → Nat → Int32} {I J : Nat → Bool} {n : Nat} (h : ∀ l, l < n → I l = J l) (l : Nat) : ∀ s, wsF w I n l s = wsF w J n l s := by
  intro s
  induction s with
  | zero => exact brO_congr h _
  | succ s ih => simp only [wsF, ih, brO_congr h]
theorem wsN_congr {w : Nat → Nat → Int32} {I J : Nat → Bool} {n : Nat} (h : ∀ l, l < n → I l = J l) : wsN w I n = wsN w J n := funext fun l => by unfold wsN; rw [wsF_congr h]
theorem rnR_congr {w : Nat → Nat → Int32} {I J : Nat → Bool} {n : Nat} (h : ∀ l, l < n → I l = J l) {l : Nat} (hl : l < n) : rnR w I n l = rnR w J n l := by unfold rnR; rw [wsN_congr h, h l hl]
theorem wsN_b {w : Nat → Nat → Int32} {I : Nat → Bool} {n l : Nat} (hl : l < n) : wsN w I n l < n := by
  unfold wsN
  rcases e : wsF w I n l 8 with _ | x
  · exact hl
  · exact (wsF_lt 8 e).1
theorem wsN_n {w : Nat → Nat → Int32} {I : Nat → Bool} {n l : Nat} (h : wsF w I n l 8 = none) : wsN w I n l = l := by unfold wsN; rw [h]; rfl
theorem wsN_y {w : Nat → Nat → Int32} {I : Nat → Bool} {n l x : Nat} (h : wsF w I n l 8 = some x) : wsN w I n l = x := by unfold wsN; rw [h]; rfl
theorem wsF_m1 {w : Nat → Nat → Int32} {I : Nat → Bool} {n l s : Nat} (hn : n ≤ 8) : (o2i (wsF w I n l s) = -1) = (wsF w I n l s = none) := o2i_m1 (fun p hp => by have := (wsF_lt _ hp).1; omega)
theorem rgA_b {wi : Nat → Nat} {n l : Nat} (hw : ∀ j, j < n → wi j < n) (hl : l < n) : ∀ k, rgA wi l k < n := by
  intro k
  induction k with
  | zero => exact hw l hl
  | succ k ih =>
    simp only [rgA]
    split
    · exact hl
    · exact hw _ ih
theorem rn_8 {w : Nat → Nat → Int32} {I : Nat → Bool} {n l : Nat} (hn : n ≤ 8) (hl : l < n) (hI : I l = true) : (rgA (wsN w I n) l 8 = l) = (rnR w I n l = true) := by
  have h := ring_more (wi := wsN w I n) (J := fun l => I l = true ∧ l < n) (n := n) (fun l hl => ⟨(wsN_lt hl.2 hl.1).2, (wsN_lt hl.2 hl.1).1⟩) (fun l hl => hl.2) (l := l) (m := 8) ⟨hI, hl⟩ hn
  rw [propext h]
  unfold rnR
  rw [hI, Bool.true_and, beq_iff_eq]
theorem sw_none {w : Nat → Nat → Int32} {n l : Nat} (h : w 7 l = -1) : ∀ r, (swK w n r).1 l = false ∧ (swK w n r).2 l = -1 := by
  intro r
  induction r with
  | zero => exact ⟨by show (!(w 7 l == -1)) = false; rw [h]; rfl, rfl⟩
  | succ r ih =>
    have h1 : rnR w (swK w n r).1 n l = false := by unfold rnR; rw [ih.1, Bool.false_and]
    refine ⟨?_, ?_⟩
    · show ((swK w n r).1 l && !(rnR w (swK w n r).1 n l)) = false
      rw [ih.1, Bool.false_and]
    · show (if rnR w (swK w n r).1 n l = true then _ else (swK w n r).2 l) = -1
      rw [h1, if_neg (by decide)]; exact ih.2
abbrev PZ (x c j : Nat) : Prop := c = x + 1 ∨ c = x + 2

set_option maxRecDepth 100000 in
theorem c_X6_firstWhoBrings (b : Nat) (hb : j_ob ΛX b 4) (n : Nat) (w : Nat → Nat → Int32) (μ : j_M) (hS : SQ μ b w n) (so inn : Int32) : Ct yX6_firstWhoBrings cX6_firstWhoBrings 4 (some .int) 0 ΛX [.ref b, .int so, .int inn] μ (pI fun r μ2 => r = (o2i (brO w (tb inn) n so)) ∧ μ2 = μ) := by
  refine Ct.go (lo := [some (.ref b), some (.int so), some (.int inn), none]) (by decide) (Nat.le_of_ble_eq_true rfl) rfl rfl (fun X F => ?_)
  have F : Fx X cX6_firstWhoBrings RX6 0 (some .int) ΛX := F
  have hn8 := hS.2
  refine v_iconst (pc := 0) (v := nI 0) F dX6_firstWhoBrings_0 (by decide) ?_
  refine v_istore_n (pc := 1) (lo' := [some (.ref _), some (.int _), some (.int _), some (.int _)]) F dX6_firstWhoBrings_1 rfl rfl (Nat.le_of_ble_eq_true rfl) rfl ?_
  refine j_up n (fun k => (∀ j, j < k → (tb inn j && w 7 j == so) = false) → V X _ 2 [some (.ref b), some (.int so), some (.int inn), some (.int (nI k))] [] μ) (fun k hk ih hI => ?_) 0 (Nat.zero_le _) (fun j hj => absurd hj (Nat.not_lt_zero _))
  refine v_iload_n (pc := 2) (i := 3) F dX6_firstWhoBrings_2 rfl rfl ?_
  refine v_aload_n (pc := 3) (i := 0) F dX6_firstWhoBrings_3 rfl rfl ?_
  refine v_getI (pc := 4) F fX6_34 dX6_firstWhoBrings_4 rfl hb ?_
  refine v_topE (y := nI n) (hS.1.cnt) ?_
  refine v_icmp_ge (pc := 7) (tgt := 39) F dX6_firstWhoBrings_7 (by decide) (fun h7_1 => ?_) (fun h7_1 => ?_)
  · rw [nI_leI (by omega) (by omega)] at h7_1
    refine v_iconst (pc := 39) (v := (-1)) F dX6_firstWhoBrings_39 (by decide) ?_
    refine v_ireturn (pc := 40) F dX6_firstWhoBrings_40 (rfl) ?_
    exact ⟨by unfold brO; rw [fN_none (fun j hj => hI j (by omega))]; rfl, rfl⟩
  · rw [nI_leI (by omega) (by omega)] at h7_1
    refine v_iload_n (pc := 10) (i := 2) F dX6_firstWhoBrings_10 rfl rfl ?_
    refine v_iload_n (pc := 11) (i := 3) F dX6_firstWhoBrings_11 rfl rfl ?_
    refine v_ishr (pc := 12) F dX6_firstWhoBrings_12 ?_
    refine v_iconst (pc := 13) (v := nI 1) F dX6_firstWhoBrings_13 (by decide) ?_
    refine v_iand (pc := 14) F dX6_firstWhoBrings_14 ?_
    refine v_if_eq (pc := 15) (tgt := 33) F dX6_firstWhoBrings_15 (by decide) (fun hin => ?_) (fun hin => ?_)
    · rw [tb_if (by omega)] at hin
      refine v_iinc (pc := 33) (i := 3) (v := nI (k + 1)) (lo' := [some (.ref _), some (.int _), some (.int _), some (.int _)]) F dX6_firstWhoBrings_33 rfl (j_inc _) rfl rfl ?_
      refine v_goto (pc := 36) (tgt := 2) F dX6_firstWhoBrings_36 (by decide) ?_
      have hz : (tb inn k && w 7 k == so) = false := by
        rw [Bool.eq_false_iff.mpr hin, Bool.false_and]
      exact ih (by omega) (fun j hj => by rcases Nat.lt_succ_iff_lt_or_eq.mp hj with q | q; exact hI j q; rw [q]; exact hz)
    · rw [tb_if (by omega)] at hin
      rw [Classical.not_not] at hin
      refine v_aload_n (pc := 18) (i := 0) F dX6_firstWhoBrings_18 rfl rfl ?_
      refine v_getR (pc := 19) (o := 3) F fX6_46 dX6_firstWhoBrings_19 rfl hb ?_
      refine v_topR (y := b + 3) rfl ?_
      refine v_iload_n (pc := 22) (i := 3) F dX6_firstWhoBrings_22 rfl rfl ?_
      refine v_aald14N (pc := 23) (k0 := k) (x := b + 5 + 2 * k) F dX6_firstWhoBrings_23 (lx4_2 hb) (rfl) (by omega) (by decide) (by simp only [j_ro]; first | rfl | omega | (split <;> omega)) ?_
      have ho3 : j_ob ΛX (b + 5 + 2 * k) 3 := by
        have q := lxL (lx4_2 hb) (j := k) (by omega)
        simp only [j_ro] at q
        exact (by first | exact q | (rw [show b + 5 + 2 * k = _ from (by first | rfl | omega)]; exact q))
      refine v_getI (pc := 24) F fX6_50 dX6_firstWhoBrings_24 rfl ho3 ?_
      refine v_topE (y := (w 7 k)) ((hS.1.lk k (by omega)).sh) ?_
      refine v_iload_n (pc := 27) (i := 1) F dX6_firstWhoBrings_27 rfl rfl ?_
      refine v_icmp_ne (pc := 28) (tgt := 33) F dX6_firstWhoBrings_28 (by decide) (fun hs => ?_) (fun hs => ?_)
      · skip
        refine v_iinc (pc := 33) (i := 3) (v := nI (k + 1)) (lo' := [some (.ref _), some (.int _), some (.int _), some (.int _)]) F dX6_firstWhoBrings_33 rfl (j_inc _) rfl rfl ?_
        refine v_goto (pc := 36) (tgt := 2) F dX6_firstWhoBrings_36 (by decide) ?_
        have hz : (tb inn k && w 7 k == so) = false := by
          have hs2 : (w 7 k == so) = false := by simpa using hs
          rw [hs2, Bool.and_false]
        exact ih (by omega) (fun j hj => by rcases Nat.lt_succ_iff_lt_or_eq.mp hj with q | q; exact hI j q; rw [q]; exact hz)
      · skip
        refine v_iload_n (pc := 31) (i := 3) F dX6_firstWhoBrings_31 rfl rfl ?_
        refine v_ireturn (pc := 32) F dX6_firstWhoBrings_32 (rfl) ?_
        exact ⟨by unfold brO; rw [fN_some (k := k) (by omega) (by rw [hin, Bool.true_and]; simpa using hs) hI]; rfl, rfl⟩

set_option maxRecDepth 100000 in
theorem c_X6_wishOf (x : Nat) (hx : j_ob ΛX x 6) (b : Nat) (hb : j_ob ΛX b 4) (n : Nat) (w : Nat → Nat → Int32) (μ : j_M) (hS : SQ μ b w n) (l : Nat) (hl : l < n) (inn : Int32) : Ct yX6_wishOf cX6_wishOf 7 (some .int) 1 ΛX [.ref x, .ref b, .int (nI l), .int inn] μ (pI fun r μ2 => r = (nI (wsN w (tb inn) n l)) ∧ μ2 = μ) := by
  refine Ct.go (lo := [some (.ref x), some (.ref b), some (.int (nI l)), some (.int inn), none, none, none]) (by decide) (Nat.le_of_ble_eq_true rfl) rfl rfl (fun X F => ?_)
  have F : Fx X cX6_wishOf RX6 1 (some .int) ΛX := F
  have hn8 := hS.2
  refine v_aload_n (pc := 0) (i := 1) F dX6_wishOf_0 rfl rfl ?_
  refine v_getR (pc := 1) (o := 3) F fX6_46 dX6_wishOf_1 rfl hb ?_
  refine v_topR (y := b + 3) rfl ?_
  refine v_iload_n (pc := 4) (i := 2) F dX6_wishOf_4 rfl rfl ?_
  refine v_aald14N (pc := 5) (k0 := l) (x := b + 5 + 2 * l) F dX6_wishOf_5 (lx4_2 hb) (rfl) (by omega) (by decide) (by simp only [j_ro]; first | rfl | omega | (split <;> omega)) ?_
  have ho1 : j_ob ΛX (b + 5 + 2 * l) 3 := by
    have q := lxL (lx4_2 hb) (j := l) (by omega)
    simp only [j_ro] at q
    exact (by first | exact q | (rw [show b + 5 + 2 * l = _ from (by first | rfl | omega)]; exact q))
  refine v_astore (pc := 6) (lo' := [some (.ref _), some (.ref _), some (.int _), some (.int _), some (.ref _), _, _]) F dX6_wishOf_6 rfl (Nat.le_of_ble_eq_true rfl) rfl ?_
  refine v_aload_n (pc := 8) (i := 1) F dX6_wishOf_8 rfl rfl ?_
  refine v_aload (pc := 9) (i := 4) F dX6_wishOf_9 rfl ?_
  refine v_getI (pc := 11) F fX6_55 dX6_wishOf_11 rfl ho1 ?_
  refine v_topE (y := (w 3 l)) ((hS.1.lk l (by omega)).a) ?_
  refine v_iload_n (pc := 14) (i := 3) F dX6_wishOf_14 rfl rfl ?_
  refine v_callSI (pc := 15) (As := [_, _, _]) (rest := []) F mX6_firstWhoBrings kX6_58 sm_X6_firstWhoBrings dX6_wishOf_15 (c_X6_firstWhoBrings b hb n w _ (hS) _ _) (by decide) rfl rfl (Nat.le_of_ble_eq_true rfl) (fun x2 μ2 hp2 => ?_)
  rw [hp2.1, hp2.2]
  refine v_topE (y := o2i (wsF w (tb inn) n l 0)) rfl ?_
  refine v_istore (pc := 18) (lo' := [some (.ref _), some (.ref _), some (.int _), some (.int _), some (.ref _), some (.int _), _]) F dX6_wishOf_18 rfl (Nat.le_of_ble_eq_true rfl) rfl ?_
  refine v_iconst (pc := 20) (v := nI 0) F dX6_wishOf_20 (by decide) ?_
  refine v_istore (pc := 21) (lo' := [some (.ref _), some (.ref _), some (.int _), some (.int _), some (.ref _), some (.int _), some (.int _)]) F dX6_wishOf_21 rfl (Nat.le_of_ble_eq_true rfl) rfl ?_
  refine j_up 8 (fun k => V X _ 23 [some (.ref x), some (.ref b), some (.int (nI l)), some (.int inn), some (.ref (b + 5 + 2 * l)), some (.int ((o2i (wsF w (tb inn) n l k)))), some (.int (nI k))] [] μ) (fun k hk ih => ?_) 0 (Nat.zero_le _)
  refine v_iload (pc := 23) (i := 6) F dX6_wishOf_23 rfl ?_
  refine v_bipush (pc := 25) (v := nI 8) F dX6_wishOf_25 (by decide) ?_
  refine v_icmp_ge (pc := 27) (tgt := 64) F dX6_wishOf_27 (by decide) (fun h8 => ?_) (fun h8 => ?_)
  · rw [nI_leI (by omega) (by omega)] at h8
    have e8 : k = 8 := by omega
    subst e8
    refine v_iload (pc := 64) (i := 5) F dX6_wishOf_64 rfl ?_
    refine v_iconst (pc := 66) (v := (-1)) F dX6_wishOf_66 (by decide) ?_
    refine v_icmp_ne (pc := 67) (tgt := 74) F dX6_wishOf_67 (by decide) (fun hz => ?_) (fun hz => ?_)
    · rw [wsF_m1 hn8] at hz
      refine v_iload (pc := 74) (i := 5) F dX6_wishOf_74 rfl ?_
      refine v_ireturn (pc := 76) F dX6_wishOf_76 (rfl) ?_
      rcases e1 : (wsF w (tb inn) n l 8) with _ | z
      · exact absurd e1 hz
      · exact ⟨by rw [wsN_y (wsF_le e1 8 (by omega))]; rfl, rfl⟩
    · rw [wsF_m1 hn8] at hz
      refine v_iload_n (pc := 70) (i := 2) F dX6_wishOf_70 rfl rfl ?_
      refine v_goto (pc := 71) (tgt := 76) F dX6_wishOf_71 (by decide) ?_
      refine v_ireturn (pc := 76) F dX6_wishOf_76 (rfl) ?_
      have e1 : wsF w (tb inn) n l 8 = none := by first | exact hz | exact absurd hz hno
      exact ⟨by rw [wsN_n e1], rfl⟩
  · rw [nI_leI (by omega) (by omega)] at h8
    refine v_iload (pc := 30) (i := 5) F dX6_wishOf_30 rfl ?_
    refine v_iconst (pc := 32) (v := (-1)) F dX6_wishOf_32 (by decide) ?_
    refine v_icmp_ne (pc := 33) (tgt := 64) F dX6_wishOf_33 (by decide) (fun hno => ?_) (fun hno => ?_)
    · rw [wsF_m1 hn8] at hno
      refine v_iload (pc := 64) (i := 5) F dX6_wishOf_64 rfl ?_
      refine v_iconst (pc := 66) (v := (-1)) F dX6_wishOf_66 (by decide) ?_
      refine v_icmp_ne (pc := 67) (tgt := 74) F dX6_wishOf_67 (by decide) (fun hz => ?_) (fun hz => ?_)
      · rw [wsF_m1 hn8] at hz
        refine v_iload (pc := 74) (i := 5) F dX6_wishOf_74 rfl ?_
        refine v_ireturn (pc := 76) F dX6_wishOf_76 (rfl) ?_
        rcases e1 : (wsF w (tb inn) n l k) with _ | z
        · exact absurd e1 hz
        · exact ⟨by rw [wsN_y (wsF_le e1 8 (by omega))]; rfl, rfl⟩
      · rw [wsF_m1 hn8] at hz
        refine v_iload_n (pc := 70) (i := 2) F dX6_wishOf_70 rfl rfl ?_
        refine v_goto (pc := 71) (tgt := 76) F dX6_wishOf_71 (by decide) ?_
        refine v_ireturn (pc := 76) F dX6_wishOf_76 (rfl) ?_
        have e1 : wsF w (tb inn) n l 8 = none := by first | exact hz | exact absurd hz hno
        exact ⟨by rw [wsN_n e1], rfl⟩
    · rw [wsF_m1 hn8] at hno
      refine v_aload (pc := 36) (i := 4) F dX6_wishOf_36 rfl ?_
      refine v_getI (pc := 38) F fX6_61 dX6_wishOf_38 rfl ho1 ?_
      refine v_topE (y := (w 5 l)) ((hS.1.lk l (by omega)).li) ?_
      refine v_iload (pc := 41) (i := 6) F dX6_wishOf_41 rfl ?_
      refine v_ishr (pc := 43) F dX6_wishOf_43 ?_
      refine v_iconst (pc := 44) (v := nI 1) F dX6_wishOf_44 (by decide) ?_
      refine v_iand (pc := 45) F dX6_wishOf_45 ?_
      refine v_if_eq (pc := 46) (tgt := 58) F dX6_wishOf_46 (by decide) (fun hlb => ?_) (fun hlb => ?_)
      · rw [tb_if (by omega)] at hlb
        refine v_iinc (pc := 58) (i := 6) (v := nI (k + 1)) (lo' := [some (.ref _), some (.ref _), some (.int _), some (.int _), some (.ref _), some (.int _), some (.int _)]) F dX6_wishOf_58 rfl (j_inc _) rfl rfl ?_
        refine v_goto (pc := 61) (tgt := 23) F dX6_wishOf_61 (by decide) ?_
        have q := ih (by omega)
        rw [wsF_f hno hlb] at q
        rw [hno]
        exact q
      · rw [tb_if (by omega)] at hlb
        rw [Classical.not_not] at hlb
        refine v_aload_n (pc := 49) (i := 1) F dX6_wishOf_49 rfl rfl ?_
        refine v_iload (pc := 50) (i := 6) F dX6_wishOf_50 rfl ?_
        refine v_iload_n (pc := 52) (i := 3) F dX6_wishOf_52 rfl rfl ?_
        refine v_callSI (pc := 53) (As := [_, _, _]) (rest := []) F mX6_firstWhoBrings kX6_58 sm_X6_firstWhoBrings dX6_wishOf_53 (c_X6_firstWhoBrings b hb n w _ (hS) _ _) (by decide) rfl rfl (Nat.le_of_ble_eq_true rfl) (fun x8 μ8 hp8 => ?_)
        rw [hp8.1, hp8.2]
        refine v_istore (pc := 56) (lo' := [some (.ref _), some (.ref _), some (.int _), some (.int _), some (.ref _), some (.int _), some (.int _)]) F dX6_wishOf_56 rfl (Nat.le_of_ble_eq_true rfl) rfl ?_
        refine v_iinc (pc := 58) (i := 6) (v := nI (k + 1)) (lo' := [some (.ref _), some (.ref _), some (.int _), some (.int _), some (.ref _), some (.int _), some (.int _)]) F dX6_wishOf_58 rfl (j_inc _) rfl rfl ?_
        refine v_goto (pc := 61) (tgt := 23) F dX6_wishOf_61 (by decide) ?_
        have q := ih (by omega)
        rw [wsF_t hno hlb] at q
        exact q

set_option maxRecDepth 100000 in
theorem c_X6_isOnRing (x : Nat) (hx : j_ob ΛX x 6) (n : Nat) (hn8 : n ≤ 8) (wi : Nat → Nat) (l : Nat) (hl : l < n) (μ : j_M) (hwi : ∀ j, j < n → μ.1 (x + 1) j = nI (wi j)) (hwb : ∀ j, j < n → wi j < n) : Ct yX6_isOnRing cX6_isOnRing 4 (some .boolean) 0 ΛX [.ref x, .int (nI l)] μ (pI fun r μ2 => r = (b2i (rgA wi l 8 = l)) ∧ μ2 = μ) := by
  refine Ct.go (lo := [some (.ref x), some (.int (nI l)), none, none]) (by decide) (Nat.le_of_ble_eq_true rfl) rfl rfl (fun X F => ?_)
  have F : Fx X cX6_isOnRing RX6 0 (some .boolean) ΛX := F
  have hlb := hwb l hl
  refine v_aload_n (pc := 0) (i := 0) F dX6_isOnRing_0 rfl rfl ?_
  refine v_getR (pc := 1) (o := 1) F fX6_9 dX6_isOnRing_1 rfl hx ?_
  refine v_topR (y := x + 1) rfl ?_
  refine v_iload_n (pc := 4) (i := 1) F dX6_isOnRing_4 rfl rfl ?_
  refine v_ialdN (pc := 5) (k0 := l) F dX6_isOnRing_5 (lx6_0 hx) (rfl) (by omega) (by decide) ?_
  refine v_topE (y := nI ((wi l))) (hwi l (by first | omega | exact rgA_b hwb hl _)) ?_
  refine v_topE (y := nI (rgA wi l 0)) rfl ?_
  refine v_istore_n (pc := 6) (lo' := [some (.ref _), some (.int _), some (.int _), _]) F dX6_isOnRing_6 rfl rfl (Nat.le_of_ble_eq_true rfl) rfl ?_
  refine v_iconst (pc := 7) (v := nI 0) F dX6_isOnRing_7 (by decide) ?_
  refine v_istore_n (pc := 8) (lo' := [some (.ref _), some (.int _), some (.int _), some (.int _)]) F dX6_isOnRing_8 rfl rfl (Nat.le_of_ble_eq_true rfl) rfl ?_
  refine j_up 8 (fun k => V X _ 9 [some (.ref x), some (.int (nI l)), some (.int (nI ((rgA wi l k)))), some (.int (nI k))] [] μ) (fun k hk ih => ?_) 0 (Nat.zero_le _)
  refine v_iload_n (pc := 9) (i := 3) F dX6_isOnRing_9 rfl rfl ?_
  have hkb := rgA_b hwb hl k
  refine v_bipush (pc := 10) (v := nI 8) F dX6_isOnRing_10 (by decide) ?_
  refine v_icmp_ge (pc := 12) (tgt := 33) F dX6_isOnRing_12 (by decide) (fun h12_1 => ?_) (fun h12_1 => ?_)
  · rw [nI_leI (by omega) (by omega)] at h12_1
    refine v_iload_n (pc := 33) (i := 2) F dX6_isOnRing_33 rfl rfl ?_
    refine v_iload_n (pc := 34) (i := 1) F dX6_isOnRing_34 rfl rfl ?_
    refine v_icmp_ne (pc := 35) (tgt := 42) F dX6_isOnRing_35 (by decide) (fun hz => ?_) (fun hz => ?_)
    · rw [nI_eq (by omega) (by omega)] at hz
      refine v_iconst (pc := 42) (v := nI 0) F dX6_isOnRing_42 (by decide) ?_
      refine v_ireturn (pc := 43) F dX6_isOnRing_43 (rfl) ?_
      refine ⟨b2i_n (fun q => ?_), rfl⟩
      by_cases e8 : k = 8
      · subst e8; exact hz q
      · first | exact hz hne | omega
    · rw [nI_eq (by omega) (by omega)] at hz
      refine v_iconst (pc := 38) (v := nI 1) F dX6_isOnRing_38 (by decide) ?_
      refine v_goto (pc := 39) (tgt := 43) F dX6_isOnRing_39 (by decide) ?_
      refine v_ireturn (pc := 43) F dX6_isOnRing_43 (rfl) ?_
      exact ⟨b2i_y (rgA_le hz (by omega)), rfl⟩
  · rw [nI_leI (by omega) (by omega)] at h12_1
    refine v_iload_n (pc := 15) (i := 2) F dX6_isOnRing_15 rfl rfl ?_
    refine v_iload_n (pc := 16) (i := 1) F dX6_isOnRing_16 rfl rfl ?_
    refine v_icmp_eq (pc := 17) (tgt := 33) F dX6_isOnRing_17 (by decide) (fun hne => ?_) (fun hne => ?_)
    · rw [nI_eq (by omega) (by omega)] at hne
      refine v_iload_n (pc := 33) (i := 2) F dX6_isOnRing_33 rfl rfl ?_
      refine v_iload_n (pc := 34) (i := 1) F dX6_isOnRing_34 rfl rfl ?_
      refine v_icmp_ne (pc := 35) (tgt := 42) F dX6_isOnRing_35 (by decide) (fun hz => ?_) (fun hz => ?_)
      · rw [nI_eq (by omega) (by omega)] at hz
        refine v_iconst (pc := 42) (v := nI 0) F dX6_isOnRing_42 (by decide) ?_
        refine v_ireturn (pc := 43) F dX6_isOnRing_43 (rfl) ?_
        refine ⟨b2i_n (fun q => ?_), rfl⟩
        by_cases e8 : k = 8
        · subst e8; exact hz q
        · first | exact hz hne | omega
      · rw [nI_eq (by omega) (by omega)] at hz
        refine v_iconst (pc := 38) (v := nI 1) F dX6_isOnRing_38 (by decide) ?_
        refine v_goto (pc := 39) (tgt := 43) F dX6_isOnRing_39 (by decide) ?_
        refine v_ireturn (pc := 43) F dX6_isOnRing_43 (rfl) ?_
        exact ⟨b2i_y (rgA_le hz (by omega)), rfl⟩
    · rw [nI_eq (by omega) (by omega)] at hne
      refine v_aload_n (pc := 20) (i := 0) F dX6_isOnRing_20 rfl rfl ?_
      refine v_getR (pc := 21) (o := 1) F fX6_9 dX6_isOnRing_21 rfl hx ?_
      refine v_topR (y := x + 1) rfl ?_
      refine v_iload_n (pc := 24) (i := 2) F dX6_isOnRing_24 rfl rfl ?_
      refine v_ialdN (pc := 25) (k0 := (rgA wi l k)) F dX6_isOnRing_25 (lx6_0 hx) (rfl) (by omega) (by decide) ?_
      refine v_topE (y := nI ((wi ((rgA wi l k))))) (hwi ((rgA wi l k)) (by first | omega | exact rgA_b hwb hl _)) ?_
      refine v_istore_n (pc := 26) (lo' := [some (.ref _), some (.int _), some (.int _), some (.int _)]) F dX6_isOnRing_26 rfl rfl (Nat.le_of_ble_eq_true rfl) rfl ?_
      refine v_iinc (pc := 27) (i := 3) (v := nI (k + 1)) (lo' := [some (.ref _), some (.int _), some (.int _), some (.int _)]) F dX6_isOnRing_27 rfl (j_inc _) rfl rfl ?_
      refine v_goto (pc := 30) (tgt := 9) F dX6_isOnRing_30 (by decide) ?_
      have q := ih (by omega)
      rw [rgA_f hne] at q
      exact q
