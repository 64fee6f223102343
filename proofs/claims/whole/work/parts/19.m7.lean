/-! the reference's public methods: worlds that might be -/
def ex (w : Nat → Nat → Int32) (x y : Nat) : Nat → Nat → Int32 := fun c j => if c = 4 ∧ j = y then w 4 x else if c = 4 ∧ j = x then w 4 y else w c j
def ag (w : Nat → Nat → Int32) (l g : Nat) : Nat → Nat → Int32 := fun c j => if c = 4 ∧ j = l then nI g else w c j
def kd (w : Nat → Nat → Int32) (l v : Nat) : Nat → Nat → Int32 := fun c j => if c = 2 ∧ j = l then nI v else w c j
def ow (w : Nat → Nat → Int32) (l v : Nat) : Nat → Nat → Int32 := fun c j => if c = 3 ∧ j = l then nI v else w c j
abbrev alI (n : Nat) : Int32 := nI (2 ^ n - 1)
def s_exchanged (l o : Int32) (μ : j_M) : Int32 × j_M := if inQ (nn μ) l = true then (if inQ (nn μ) o = true then (if ix l = ix o then rj (-2) 2 μ else (nI (gnE (ex μ.1 (ix l) (ix o)) (nn μ) (alI (nn μ))), μ)) else rj (-2) 2 μ) else rj (-2) 2 μ
def bpI (w : Nat → Nat → Int32) (n x : Nat) (a : Int32 × Int32) : Nat → Int32 × Int32
  | 0 => a
  | j + 1 => if (bpI w n x a j).1 < nI (gnE (ex w x (x + 1 + j)) n (alI n)) then (nI (gnE (ex w x (x + 1 + j)) n (alI n)), nI (10 * x + (x + 1 + j))) else bpI w n x a j
def bpO (w : Nat → Nat → Int32) (n : Nat) : Nat → Int32 × Int32
  | 0 => (-1, -1)
  | x + 1 => bpI w n x (bpO w n x) (n - (x + 1))
theorem bpI_t {w : Nat → Nat → Int32} {n x j : Nat} {a : Int32 × Int32} (h2 : (bpI w n x a j).1 < nI (gnE (ex w x (x + 1 + j)) n (alI n))) : bpI w n x a (j + 1) = (nI (gnE (ex w x (x + 1 + j)) n (alI n)), nI (10 * x + (x + 1 + j))) := if_pos h2
theorem bpI_f {w : Nat → Nat → Int32} {n x j : Nat} {a : Int32 × Int32} (h2 : ¬ (bpI w n x a j).1 < nI (gnE (ex w x (x + 1 + j)) n (alI n))) : bpI w n x a (j + 1) = bpI w n x a j := if_neg h2
def s_bestPair (μ : j_M) : Int32 × j_M := ((bpO μ.1 (nn μ) (nn μ)).2, μ)
def s_oldest (l : Int32) (μ : j_M) : Int32 × j_M := if inQ (nn μ) l = true then (o2i (lK (fun g => gdE (ag μ.1 (ix l) g) (nn μ) (alI (nn μ)) (ix l)) 100), μ) else rj (-2) 2 μ
def s_kinds (set l taken what : Int32) (μ : j_M) : Int32 × j_M := if inQ (2 ^ nn μ) set = true then (if inQ (nn μ) l = true then (if inQ 4096 taken = true then (if inQ 2 what = true then (if tb set (ix l) = true then (if what = 0 then (bK (fun v => bl (tE (kd μ.1 (ix l) v) (nn μ) set (ix l)) == taken) 6, μ) else (bK (fun v => bl (tE (ow μ.1 (ix l) v) (nn μ) set (ix l)) == taken) 8, μ)) else rj (-2) 2 μ) else rj (-2) 2 μ) else rj (-2) 2 μ) else rj (-2) 2 μ) else rj (-2) 2 μ
def uB (a b : Int32) : Bool := b == 0 || (a == b || ((a == 3 && b == 1) || (a == 4 && b == 2)))
theorem uB_eq {a b : Int32} : (b = 0 ∨ a = b ∨ (a = 3 ∧ b = 1) ∨ (a = 4 ∧ b = 2)) = (uB a b = true) := by simp [uB]
def s_says (s k : Int32) (μ : j_M) : Int32 × j_M := if inQ 8 s = true then (if inQ 6 k = true then (if inQ 5 (μ.1 10 (ix s)) = true then rj (-3) 3 μ else if μ.1 10 (ix s) = -1 then rj (-4) 4 μ else if uB (μ.1 2 (ix (μ.1 10 (ix s)) - 10)) k = true then (if k = 0 then (μ.1 4 (ix (μ.1 10 (ix s)) - 10), μ) else (bl (tE μ.1 (nn μ) ((1 : Int32) <<< (nI (ix (μ.1 10 (ix s)) - 10) &&& 31)) (ix (μ.1 10 (ix s)) - 10)), μ)) else rj (-3) 3 μ) else rj (-2) 2 μ) else rj (-2) 2 μ
def s_twice (set then_ : Int32) (μ : j_M) : Int32 × j_M := if inQ (2 ^ nn μ) set = true then (if inQ (2 ^ nn μ) then_ = true then (lfB (goU μ.1 (OO μ.1 (nn μ) then_) (uE μ.1 (nn μ) set)), μ) else rj (-2) 2 μ) else rj (-2) 2 μ
theorem RW_ex {w : Nat → Nat → Int32} {n x y : Nat} {μ : j_M} (h : RW w n μ) : RW (ex w x y) n (j_pI (j_pI μ 4 x (μ.1 4 y)) 4 y (μ.1 4 x)) := by
  refine ⟨fun c h1 h2 => ?_, ?_⟩
  · funext j
    show (if c = 4 ∧ j = y then μ.1 4 x else if c = 4 ∧ j = x then μ.1 4 y else μ.1 c j) = _
    rw [h.1 c h1 h2, h.1 4 (by omega) (by omega)]
    rfl
  · rw [j_pI_ne (by decide), j_pI_ne (by decide)]
    exact h.2
theorem ex_back {n x y : Nat} {μ μ' : j_M} (hxy : x ≠ y) (h : Fm PB (j_pI (j_pI μ 4 x (μ.1 4 y)) 4 y (μ.1 4 x)) μ') : Fm PB μ (j_pI (j_pI μ' 4 y (μ'.1 4 x)) 4 x (μ.1 4 x)) := by
  refine ⟨fun c j q => ?_, h.2⟩
  by_cases e1 : c = 4 ∧ j = x
  · rw [e1.1, e1.2, j_pI_at]
  · rw [j_pI_off e1]
    by_cases e2 : c = 4 ∧ j = y
    · rw [e2.1, e2.2, j_pI_at, h.1 4 x (by omega), j_pI_off (by omega), j_pI_at]
    · rw [j_pI_off e2, h.1 c j q, j_pI_off e2, j_pI_off e1]
theorem RW_ag {n l g : Nat} {μ μ' : j_M} (h : μ.1 0 1 = nI n) (hF : Fm (fun c j => PB c j ∨ (c = 4 ∧ j = l)) μ μ') : RW (ag μ.1 l g) n (j_pI μ' 4 l (nI g)) := by
  refine ⟨fun c h1 h2 => ?_, ?_⟩
  · funext j
    show (if c = 4 ∧ j = l then nI g else μ'.1 c j) = (if c = 4 ∧ j = l then nI g else μ.1 c j)
    by_cases e : c = 4 ∧ j = l
    · rw [if_pos e, if_pos e]
    · rw [if_neg e, if_neg e, hF.1 c j (by omega)]
  · rw [j_pI_ne (by decide), hF.1 0 1 (by omega)]
    exact h
theorem ag_back {l : Nat} {μ μ' : j_M} (hF : Fm (fun c j => PB c j ∨ (c = 4 ∧ j = l)) μ μ') : Fm PB μ (j_pI μ' 4 l (μ.1 4 l)) := by
  refine ⟨fun c j q => ?_, hF.2⟩
  by_cases e1 : c = 4 ∧ j = l
  · rw [e1.1, e1.2, j_pI_at]
  · rw [j_pI_off e1, hF.1 c j (by rintro (z | z); exact q z; exact e1 z)]
theorem RW_kd {n l g : Nat} {μ μ' : j_M} (h : μ.1 0 1 = nI n) (hF : Fm (fun c j => PB c j ∨ (c = 2 ∧ j = l)) μ μ') : RW (kd μ.1 l g) n (j_pI μ' 2 l (nI g)) := by
  refine ⟨fun c h1 h2 => ?_, ?_⟩
  · funext j
    show (if c = 2 ∧ j = l then nI g else μ'.1 c j) = (if c = 2 ∧ j = l then nI g else μ.1 c j)
    by_cases e : c = 2 ∧ j = l
    · rw [if_pos e, if_pos e]
    · rw [if_neg e, if_neg e, hF.1 c j (by omega)]
  · rw [j_pI_ne (by decide), hF.1 0 1 (by omega)]
    exact h
theorem RW_ow {n l g : Nat} {μ μ' : j_M} (h : μ.1 0 1 = nI n) (hF : Fm (fun c j => PB c j ∨ (c = 3 ∧ j = l)) μ μ') : RW (ow μ.1 l g) n (j_pI μ' 3 l (nI g)) := by
  refine ⟨fun c h1 h2 => ?_, ?_⟩
  · funext j
    show (if c = 3 ∧ j = l then nI g else μ'.1 c j) = (if c = 3 ∧ j = l then nI g else μ.1 c j)
    by_cases e : c = 3 ∧ j = l
    · rw [if_pos e, if_pos e]
    · rw [if_neg e, if_neg e, hF.1 c j (by omega)]
  · rw [j_pI_ne (by decide), hF.1 0 1 (by omega)]
    exact h
theorem kd_back {l : Nat} {μ μ' : j_M} (hF : Fm (fun c j => PB c j ∨ (c = 2 ∧ j = l)) μ μ') : Fm PB μ (j_pI (j_pI μ' 2 l (μ.1 2 l)) 3 l (μ.1 3 l)) := by
  refine ⟨fun c j q => ?_, hF.2⟩
  by_cases e1 : c = 3 ∧ j = l
  · rw [e1.1, e1.2, j_pI_at]
  · rw [j_pI_off e1]
    by_cases e2 : c = 2 ∧ j = l
    · rw [e2.1, e2.2, j_pI_at]
    · rw [j_pI_off e2, hF.1 c j (by rintro (z | z); exact q z; exact e2 z)]
theorem ow_back {l : Nat} {μ μ' : j_M} (hF : Fm (fun c j => PB c j ∨ (c = 3 ∧ j = l)) μ μ') : Fm PB μ (j_pI (j_pI μ' 2 l (μ.1 2 l)) 3 l (μ.1 3 l)) := by
  refine ⟨fun c j q => ?_, hF.2⟩
  by_cases e1 : c = 3 ∧ j = l
  · rw [e1.1, e1.2, j_pI_at]
  · rw [j_pI_off e1]
    by_cases e2 : c = 2 ∧ j = l
    · rw [e2.1, e2.2, j_pI_at]
    · rw [j_pI_off e2, hF.1 c j (by rintro (z | z); exact q z; exact e1 z)]
theorem ag_own {w : Nat → Nat → Int32} {n l g : Nat} (h : ∀ l, l < n → ¬ w 3 l = -1) : ∀ x, x < n → ¬ (ag w l g) 3 x = -1 := fun x hx => by
  show ¬ (if 3 = 4 ∧ x = l then nI g else w 3 x) = -1
  rw [if_neg (by omega)]; exact h x hx
theorem kd_own {w : Nat → Nat → Int32} {n l g : Nat} (h : ∀ l, l < n → ¬ w 3 l = -1) : ∀ x, x < n → ¬ (kd w l g) 3 x = -1 := fun x hx => by
  show ¬ (if 3 = 2 ∧ x = l then nI g else w 3 x) = -1
  rw [if_neg (by omega)]; exact h x hx
theorem ex_own {w : Nat → Nat → Int32} {n x y : Nat} (h : ∀ l, l < n → ¬ w 3 l = -1) : ∀ l, l < n → ¬ (ex w x y) 3 l = -1 := fun l hl => by
  show ¬ (if 3 = 4 ∧ l = y then w 4 x else if 3 = 4 ∧ l = x then w 4 y else w 3 l) = -1
  rw [if_neg (by omega), if_neg (by omega)]; exact h l hl
theorem ow_own {w : Nat → Nat → Int32} {n l g : Nat} (hg : g < 8) (h : ∀ l, l < n → ¬ w 3 l = -1) : ∀ x, x < n → ¬ (ow w l g) 3 x = -1 := fun x hx => by
  show ¬ (if 3 = 3 ∧ x = l then nI g else w 3 x) = -1
  by_cases e : 3 = 3 ∧ x = l
  · rw [if_pos e]; exact j_m1 (by omega)
  · rw [if_neg e]; exact h x hx

set_option maxRecDepth 100000 in
theorem c_X10_exchanges (x y n : Nat) (w : Nat → Nat → Int32) (μ : j_M) (hw : RW w n μ) (hn8 : n ≤ 8) (ho : ∀ l, l < n → ¬ w 3 l = -1) (hx : x < n) (hy : y < n) (hxy : x ≠ y) : Ct yX10_exchanges cX10_exchanges 5 (some .int) 6 ΛM [.ref 0, .int (nI x), .int (nI y)] μ (pI fun r μ2 => r = nI (gnE (ex w x y) n (alI n)) ∧ Fm PB μ μ2) := by
  refine Ct.go (lo := [some (.ref 0), some (.int (nI x)), some (.int (nI y)), none, none]) (by decide) (Nat.le_of_ble_eq_true rfl) rfl rfl (fun X F => ?_)
  have F : Fx X cX10_exchanges RX10 6 (some .int) ΛM := F
  have hpw := j_pw hn8
  refine v_aload_n (pc := 0) (i := 0) F dX10_exchanges_0 rfl rfl ?_
  refine v_getR (pc := 1) (o := 4) F fX10_19 dX10_exchanges_1 rfl lm0 ?_
  refine v_topR (y := 4) rfl ?_
  refine v_iload_n (pc := 4) (i := 1) F dX10_exchanges_4 rfl rfl ?_
  refine v_ialdN (pc := 5) (k0 := x) F dX10_exchanges_5 (lm10_4 lm0) (rfl) (by omega) (by decide) ?_
  refine v_istore_n (pc := 6) (lo' := [some (.ref _), some (.int _), some (.int _), some (.int _), _]) F dX10_exchanges_6 rfl rfl (Nat.le_of_ble_eq_true rfl) rfl ?_
  refine v_aload_n (pc := 7) (i := 0) F dX10_exchanges_7 rfl rfl ?_
  refine v_getR (pc := 8) (o := 4) F fX10_19 dX10_exchanges_8 rfl lm0 ?_
  refine v_topR (y := 4) rfl ?_
  refine v_iload_n (pc := 11) (i := 1) F dX10_exchanges_11 rfl rfl ?_
  refine v_aload_n (pc := 12) (i := 0) F dX10_exchanges_12 rfl rfl ?_
  refine v_getR (pc := 13) (o := 4) F fX10_19 dX10_exchanges_13 rfl lm0 ?_
  refine v_topR (y := 4) rfl ?_
  refine v_iload_n (pc := 16) (i := 2) F dX10_exchanges_16 rfl rfl ?_
  refine v_ialdN (pc := 17) (k0 := y) F dX10_exchanges_17 (lm10_4 lm0) (rfl) (by omega) (by decide) ?_
  refine v_iastN (pc := 18) (k0 := x) F dX10_exchanges_18 (lm10_4 lm0) (rfl) (by omega) (by decide) ?_
  refine v_aload_n (pc := 19) (i := 0) F dX10_exchanges_19 rfl rfl ?_
  refine v_getR (pc := 20) (o := 4) F fX10_19 dX10_exchanges_20 rfl lm0 ?_
  refine v_topR (y := 4) rfl ?_
  refine v_iload_n (pc := 23) (i := 2) F dX10_exchanges_23 rfl rfl ?_
  refine v_iload_n (pc := 24) (i := 3) F dX10_exchanges_24 rfl rfl ?_
  refine v_iastN (pc := 25) (k0 := y) F dX10_exchanges_25 (lm10_4 lm0) (rfl) (by omega) (by decide) ?_
  refine v_aload_n (pc := 26) (i := 0) F dX10_exchanges_26 rfl rfl ?_
  refine v_iconst (pc := 27) (v := nI 1) F dX10_exchanges_27 (by decide) ?_
  refine v_aload_n (pc := 28) (i := 0) F dX10_exchanges_28 rfl rfl ?_
  refine v_getI (pc := 29) F fX10_89 dX10_exchanges_29 rfl lm0 ?_
  refine v_topE (hw.2) ?_
  refine v_ishl (pc := 32) F dX10_exchanges_32 ?_
  refine v_topE (y := nI (2 ^ n)) (j_pow hn8) ?_
  refine v_iconst (pc := 33) (v := nI 1) F dX10_exchanges_33 (by decide) ?_
  refine v_isub (pc := 34) F dX10_exchanges_34 ?_
  refine v_topE (pk_sub (by omega)) ?_
  refine v_callVI (pc := 35) (As := [_]) (rest := []) (c := 10) F mX10_gladOf kX10_240 im_X10_gladOf se_X10_gladOf dX10_exchanges_35 rfl rfl (by decide) (c_X10_gladOf _ n (ex w x y) _ (RW_ex hw) hn8 (ex_own ho) _ rfl) (by decide) rfl rfl (Nat.le_of_ble_eq_true rfl) lm0 (fun x1 μ1 hp1 => ?_)
  rw [hp1.1]
  have hq := hp1.2
  generalize μ1 = μ' at hq ⊢
  refine v_istore (pc := 38) (lo' := [some (.ref _), some (.int _), some (.int _), some (.int _), some (.int _)]) F dX10_exchanges_38 rfl (Nat.le_of_ble_eq_true rfl) rfl ?_
  refine v_aload_n (pc := 40) (i := 0) F dX10_exchanges_40 rfl rfl ?_
  refine v_getR (pc := 41) (o := 4) F fX10_19 dX10_exchanges_41 rfl lm0 ?_
  refine v_topR (y := 4) rfl ?_
  refine v_iload_n (pc := 44) (i := 2) F dX10_exchanges_44 rfl rfl ?_
  refine v_aload_n (pc := 45) (i := 0) F dX10_exchanges_45 rfl rfl ?_
  refine v_getR (pc := 46) (o := 4) F fX10_19 dX10_exchanges_46 rfl lm0 ?_
  refine v_topR (y := 4) rfl ?_
  refine v_iload_n (pc := 49) (i := 1) F dX10_exchanges_49 rfl rfl ?_
  refine v_ialdN (pc := 50) (k0 := x) F dX10_exchanges_50 (lm10_4 lm0) (rfl) (by omega) (by decide) ?_
  refine v_iastN (pc := 51) (k0 := y) F dX10_exchanges_51 (lm10_4 lm0) (rfl) (by omega) (by decide) ?_
  refine v_aload_n (pc := 52) (i := 0) F dX10_exchanges_52 rfl rfl ?_
  refine v_getR (pc := 53) (o := 4) F fX10_19 dX10_exchanges_53 rfl lm0 ?_
  refine v_topR (y := 4) rfl ?_
  refine v_iload_n (pc := 56) (i := 1) F dX10_exchanges_56 rfl rfl ?_
  refine v_iload_n (pc := 57) (i := 3) F dX10_exchanges_57 rfl rfl ?_
  refine v_iastN (pc := 58) (k0 := x) F dX10_exchanges_58 (lm10_4 lm0) (rfl) (by omega) (by decide) ?_
  refine v_iload (pc := 59) (i := 4) F dX10_exchanges_59 rfl ?_
  refine v_ireturn (pc := 61) F dX10_exchanges_61 (rfl) ?_
  exact ⟨rfl, ex_back (n := n) hxy hq.1⟩

set_option maxRecDepth 100000 in
theorem c_X10_exchanged (l o : Int32) (μ : j_M) (hM : MI μ) : Ct yX10_exchanged cX10_exchanged 3 (some .int) 7 ΛM [.ref 0, .int l, .int o] μ (pI fun r μ2 => r = (s_exchanged l o μ).1 ∧ Fm PS (s_exchanged l o μ).2 μ2) := by
  refine Ct.go (lo := [some (.ref 0), some (.int l), some (.int o)]) (by decide) (Nat.le_of_ble_eq_true rfl) rfl rfl (fun X F => ?_)
  have F : Fx X cX10_exchanged RX10 7 (some .int) ΛM := F
  obtain ⟨n, hW, hsh, htp, him⟩ := id hM
  have hn := hW.1
  have hn8 := hW.2.1
  have hnn := nn_eq hn hn8
  have ho := hW.own
  have hrw : RW μ.1 n μ := RW.self hn
  have hpw := j_pw hn8
  refine v_aload_n (pc := 0) (i := 0) F dX10_exchanged_0 rfl rfl ?_
  refine v_iload_n (pc := 1) (i := 1) F dX10_exchanged_1 rfl rfl ?_
  refine v_callVI (pc := 2) (As := [_]) (rest := []) (c := 10) F mX10_isLooker kX10_110 im_X10_isLooker se_X10_isLooker dX10_exchanged_2 rfl rfl (by decide) (c_X10_isLooker _ n _ (by first | exact hn | assumption) hn8) (by decide) rfl rfl (Nat.le_of_ble_eq_true rfl) lm0 (fun x1 μ1 hp1 => ?_)
  rw [hp1.1, hp1.2]
  refine v_if_eq (pc := 5) (tgt := 30) F dX10_exchanged_5 (by decide) (fun h5_2 => ?_) (fun h5_2 => ?_)
  · rw [b2i_0] at h5_2
    refine v_aload_n (pc := 30) (i := 0) F dX10_exchanged_30 rfl rfl ?_
    refine v_bipush (pc := 31) (v := (-2)) F dX10_exchanged_31 (by decide) ?_
    refine v_callVI (pc := 33) (As := [_]) (rest := []) (c := 10) F mX10_no kX10_96 im_X10_no se_X10_no dX10_exchanged_33 rfl rfl (by decide) (c_X10_no (-2) 2 (by decide) (by decide) _) (by decide) rfl rfl (Nat.le_of_ble_eq_true rfl) lm0 (fun x3 μ3 hp3 => ?_)
    rw [hp3.1, hp3.2]
    refine v_ireturn (pc := 36) F dX10_exchanged_36 (rfl) ?_
    simp only [s_exchanged, rj, hnn, h5_2, ↓reduceIte]
    refine ⟨?_, ?_⟩ <;> first | exact trivial | exact rfl | exact Fm.rf
  · rw [b2i_0] at h5_2
    rw [Classical.not_not] at h5_2
    obtain ⟨k_l, hk_l, he_l⟩ := inR_of (by omega) h5_2
    subst he_l
    have ek_l : ix (nI k_l) = k_l := nI_clamp (by omega)
    refine v_aload_n (pc := 8) (i := 0) F dX10_exchanged_8 rfl rfl ?_
    refine v_iload_n (pc := 9) (i := 2) F dX10_exchanged_9 rfl rfl ?_
    refine v_callVI (pc := 10) (As := [_]) (rest := []) (c := 10) F mX10_isLooker kX10_110 im_X10_isLooker se_X10_isLooker dX10_exchanged_10 rfl rfl (by decide) (c_X10_isLooker _ n _ (by first | exact hn | assumption) hn8) (by decide) rfl rfl (Nat.le_of_ble_eq_true rfl) lm0 (fun x4 μ4 hp4 => ?_)
    rw [hp4.1, hp4.2]
    refine v_if_eq (pc := 13) (tgt := 30) F dX10_exchanged_13 (by decide) (fun h13_5 => ?_) (fun h13_5 => ?_)
    · rw [b2i_0] at h13_5
      refine v_aload_n (pc := 30) (i := 0) F dX10_exchanged_30 rfl rfl ?_
      refine v_bipush (pc := 31) (v := (-2)) F dX10_exchanged_31 (by decide) ?_
      refine v_callVI (pc := 33) (As := [_]) (rest := []) (c := 10) F mX10_no kX10_96 im_X10_no se_X10_no dX10_exchanged_33 rfl rfl (by decide) (c_X10_no (-2) 2 (by decide) (by decide) _) (by decide) rfl rfl (Nat.le_of_ble_eq_true rfl) lm0 (fun x6 μ6 hp6 => ?_)
      rw [hp6.1, hp6.2]
      refine v_ireturn (pc := 36) F dX10_exchanged_36 (rfl) ?_
      simp only [s_exchanged, rj, hnn, h5_2, ek_l, h13_5, ↓reduceIte]
      refine ⟨?_, ?_⟩ <;> first | exact trivial | exact rfl | exact Fm.rf
    · rw [b2i_0] at h13_5
      rw [Classical.not_not] at h13_5
      obtain ⟨k_o, hk_o, he_o⟩ := inR_of (by omega) h13_5
      subst he_o
      have ek_o : ix (nI k_o) = k_o := nI_clamp (by omega)
      refine v_iload_n (pc := 16) (i := 1) F dX10_exchanged_16 rfl rfl ?_
      refine v_iload_n (pc := 17) (i := 2) F dX10_exchanged_17 rfl rfl ?_
      refine v_icmp_eq (pc := 18) (tgt := 30) F dX10_exchanged_18 (by decide) (fun h18_7 => ?_) (fun h18_7 => ?_)
      · rw [nI_eq (by omega) (by omega)] at h18_7
        refine v_aload_n (pc := 30) (i := 0) F dX10_exchanged_30 rfl rfl ?_
        refine v_bipush (pc := 31) (v := (-2)) F dX10_exchanged_31 (by decide) ?_
        refine v_callVI (pc := 33) (As := [_]) (rest := []) (c := 10) F mX10_no kX10_96 im_X10_no se_X10_no dX10_exchanged_33 rfl rfl (by decide) (c_X10_no (-2) 2 (by decide) (by decide) _) (by decide) rfl rfl (Nat.le_of_ble_eq_true rfl) lm0 (fun x8 μ8 hp8 => ?_)
        rw [hp8.1, hp8.2]
        refine v_ireturn (pc := 36) F dX10_exchanged_36 (rfl) ?_
        simp only [s_exchanged, rj, hnn, h5_2, ek_l, h13_5, ek_o, h18_7, ↓reduceIte]
        refine ⟨?_, ?_⟩ <;> first | exact trivial | exact rfl | exact Fm.rf
      · rw [nI_eq (by omega) (by omega)] at h18_7
        refine v_aload_n (pc := 21) (i := 0) F dX10_exchanged_21 rfl rfl ?_
        refine v_iload_n (pc := 22) (i := 1) F dX10_exchanged_22 rfl rfl ?_
        refine v_iload_n (pc := 23) (i := 2) F dX10_exchanged_23 rfl rfl ?_
        refine v_callVI (pc := 24) (As := [_, _]) (rest := []) (c := 10) F mX10_exchanges kX10_269 im_X10_exchanges se_X10_exchanges dX10_exchanged_24 rfl rfl (by decide) (c_X10_exchanges k_l k_o n μ.1 μ hrw hn8 ho hk_l hk_o (by assumption)) (by decide) rfl rfl (Nat.le_of_ble_eq_true rfl) lm0 (fun x9 μ9 hp9 => ?_)
        rw [hp9.1]
        have hq := hp9.2
        refine v_goto (pc := 27) (tgt := 36) F dX10_exchanged_27 (by decide) ?_
        refine v_ireturn (pc := 36) F dX10_exchanged_36 (rfl) ?_
        simp only [s_exchanged, hnn, h5_2, ek_l, h13_5, ek_o, h18_7, ↓reduceIte]
        exact ⟨by first | exact trivial | exact rfl, PB_PS hq⟩

set_option maxRecDepth 100000 in
theorem c_X10_bestPair  (μ : j_M) (hM : MI μ) : Ct yX10_bestPair cX10_bestPair 6 (some .int) 7 ΛM [.ref 0] μ (pI fun r μ2 => r = (s_bestPair μ).1 ∧ Fm PS (s_bestPair μ).2 μ2) := by
  refine Ct.go (lo := [some (.ref 0), none, none, none, none, none]) (by decide) (Nat.le_of_ble_eq_true rfl) rfl rfl (fun X F => ?_)
  have F : Fx X cX10_bestPair RX10 7 (some .int) ΛM := F
  obtain ⟨n, hW, hsh, htp, him⟩ := id hM
  have hn := hW.1
  have hn8 := hW.2.1
  have hnn := nn_eq hn hn8
  have ho := hW.own
  have hrw : RW μ.1 n μ := RW.self hn
  have hpw := j_pw hn8
  refine v_iconst (pc := 0) (v := (-1)) F dX10_bestPair_0 (by decide) ?_
  refine v_istore_n (pc := 1) (lo' := [some (.ref _), some (.int _), _, _, _, _]) F dX10_bestPair_1 rfl rfl (Nat.le_of_ble_eq_true rfl) rfl ?_
  refine v_iconst (pc := 2) (v := (-1)) F dX10_bestPair_2 (by decide) ?_
  refine v_istore_n (pc := 3) (lo' := [some (.ref _), some (.int _), some (.int _), _, _, _]) F dX10_bestPair_3 rfl rfl (Nat.le_of_ble_eq_true rfl) rfl ?_
  refine v_iconst (pc := 4) (v := nI 0) F dX10_bestPair_4 (by decide) ?_
  refine v_istore_n (pc := 5) (lo' := [some (.ref _), some (.int _), some (.int _), some (.int _), _, _]) F dX10_bestPair_5 rfl rfl (Nat.le_of_ble_eq_true rfl) rfl ?_
  refine j_up n (fun x => ∀ μ' : j_M, (Fm PB μ μ') → V X _ 6 [some (.ref 0), some (.int ((bpO μ.1 n x).2)), some (.int ((bpO μ.1 n x).1)), some (.int (nI x)), none, none] [] μ') (fun x hk ih μ' hI => ?_) 0 (Nat.zero_le _) μ (Fm.rf)
  refine v_iload_n (pc := 6) (i := 3) F dX10_bestPair_6 rfl rfl ?_
  refine v_aload_n (pc := 7) (i := 0) F dX10_bestPair_7 rfl rfl ?_
  refine v_getI (pc := 8) F fX10_89 dX10_bestPair_8 rfl lm0 ?_
  refine v_topE ((hrw.keep hI).2) ?_
  refine v_icmp_ge (pc := 11) (tgt := 69) F dX10_bestPair_11 (by decide) (fun h11_1 => ?_) (fun h11_1 => ?_)
  · rw [nI_leI (by omega) (by omega)] at h11_1
    refine v_iload_n (pc := 69) (i := 1) F dX10_bestPair_69 rfl rfl ?_
    refine v_ireturn (pc := 70) F dX10_bestPair_70 (rfl) ?_
    have e : x = n := by omega
    subst e
    simp only [s_bestPair, hnn, h11_1]
    exact ⟨by first | exact trivial | exact rfl, PB_PS hI⟩
  · rw [nI_leI (by omega) (by omega)] at h11_1
    refine v_iload_n (pc := 14) (i := 3) F dX10_bestPair_14 rfl rfl ?_
    refine v_iconst (pc := 15) (v := nI 1) F dX10_bestPair_15 (by decide) ?_
    refine v_iadd (pc := 16) F dX10_bestPair_16 ?_
    refine v_topE (nI_add _ _) ?_
    refine v_istore (pc := 17) (lo' := [some (.ref _), some (.int _), some (.int _), some (.int _), some (.int _), _]) F dX10_bestPair_17 rfl (Nat.le_of_ble_eq_true rfl) rfl ?_
    refine j_up (n - (x + 1)) (fun j => ∀ μ'' : j_M, (Fm PB μ μ'') → V X _ 19 [some (.ref 0), some (.int ((bpI μ.1 n x (bpO μ.1 n x) j).2)), some (.int ((bpI μ.1 n x (bpO μ.1 n x) j).1)), some (.int (nI x)), some (.int (nI (x + 1 + j))), none] [] μ'') (fun j hy ih2 μ'' hJ => ?_) 0 (Nat.zero_le _) μ' (hI)
    refine v_iload (pc := 19) (i := 4) F dX10_bestPair_19 rfl ?_
    refine v_aload_n (pc := 21) (i := 0) F dX10_bestPair_21 rfl rfl ?_
    refine v_getI (pc := 22) F fX10_89 dX10_bestPair_22 rfl lm0 ?_
    refine v_topE ((hrw.keep hJ).2) ?_
    refine v_icmp_ge (pc := 25) (tgt := 63) F dX10_bestPair_25 (by decide) (fun h25_2 => ?_) (fun h25_2 => ?_)
    · rw [nI_leI (by omega) (by omega)] at h25_2
      refine v_iinc (pc := 63) (i := 3) (v := nI (x + 1)) (lo' := [some (.ref _), some (.int _), some (.int _), some (.int _), some (.int _), _]) F dX10_bestPair_63 rfl (j_inc _) rfl rfl ?_
      refine v_goto (pc := 66) (tgt := 6) F dX10_bestPair_66 (by decide) ?_
      refine v_drop (i := 4) (lo' := [some (.ref _), some (.int _), some (.int _), some (.int _), _, _]) rfl ?_
      have e : j = n - (x + 1) := by omega
      subst e
      exact ih (by omega) _ hJ
    · rw [nI_leI (by omega) (by omega)] at h25_2
      refine v_aload_n (pc := 28) (i := 0) F dX10_bestPair_28 rfl rfl ?_
      refine v_iload_n (pc := 29) (i := 3) F dX10_bestPair_29 rfl rfl ?_
      refine v_iload (pc := 30) (i := 4) F dX10_bestPair_30 rfl ?_
      refine v_callVI (pc := 32) (As := [_, _]) (rest := []) (c := 10) F mX10_exchanges kX10_269 im_X10_exchanges se_X10_exchanges dX10_bestPair_32 rfl rfl (by decide) (c_X10_exchanges x (x + 1 + j) n μ.1 _ (hrw.keep hJ) hn8 ho (by omega) (by omega) (by omega)) (by decide) rfl rfl (Nat.le_of_ble_eq_true rfl) lm0 (fun x3 μ3 hp3 => ?_)
      rw [hp3.1]
      have hq := hp3.2
      generalize μ3 = μ3 at hq ⊢
      refine v_istore (pc := 35) (lo' := [some (.ref _), some (.int _), some (.int _), some (.int _), some (.int _), some (.int _)]) F dX10_bestPair_35 rfl (Nat.le_of_ble_eq_true rfl) rfl ?_
      refine v_iload (pc := 37) (i := 5) F dX10_bestPair_37 rfl ?_
      refine v_iload_n (pc := 39) (i := 2) F dX10_bestPair_39 rfl rfl ?_
      refine v_icmp_gt (pc := 40) (tgt := 46) F dX10_bestPair_40 (by decide) (fun hb => ?_) (fun hb => ?_)
      · skip
        refine v_iload (pc := 46) (i := 5) F dX10_bestPair_46 rfl ?_
        refine v_istore_n (pc := 48) (lo' := [some (.ref _), some (.int _), some (.int _), some (.int _), some (.int _), some (.int _)]) F dX10_bestPair_48 rfl rfl (Nat.le_of_ble_eq_true rfl) rfl ?_
        refine v_bipush (pc := 49) (v := nI 10) F dX10_bestPair_49 (by decide) ?_
        refine v_iload_n (pc := 51) (i := 3) F dX10_bestPair_51 rfl rfl ?_
        refine v_imul (pc := 52) F dX10_bestPair_52 ?_
        refine v_topE (pk_mul _ _) ?_
        refine v_iload (pc := 53) (i := 4) F dX10_bestPair_53 rfl ?_
        refine v_iadd (pc := 55) F dX10_bestPair_55 ?_
        refine v_topE (nI_add _ _) ?_
        refine v_istore_n (pc := 56) (lo' := [some (.ref _), some (.int _), some (.int _), some (.int _), some (.int _), some (.int _)]) F dX10_bestPair_56 rfl rfl (Nat.le_of_ble_eq_true rfl) rfl ?_
        refine v_iinc (pc := 57) (i := 4) (v := nI (x + 1 + j + 1)) (lo' := [some (.ref _), some (.int _), some (.int _), some (.int _), some (.int _), some (.int _)]) F dX10_bestPair_57 rfl (j_inc _) rfl rfl ?_
        refine v_goto (pc := 60) (tgt := 19) F dX10_bestPair_60 (by decide) ?_
        refine v_drop (i := 5) (lo' := [some (.ref _), some (.int _), some (.int _), some (.int _), some (.int _), _]) rfl ?_
        have q := ih2 (by omega) μ3 (hJ.tr hq)
        first | (rw [bpI_t hb] at q; exact q) | (rw [bpI_f hb] at q; exact q)
      · skip
        refine v_goto (pc := 43) (tgt := 57) F dX10_bestPair_43 (by decide) ?_
        refine v_iinc (pc := 57) (i := 4) (v := nI (x + 1 + j + 1)) (lo' := [some (.ref _), some (.int _), some (.int _), some (.int _), some (.int _), some (.int _)]) F dX10_bestPair_57 rfl (j_inc _) rfl rfl ?_
        refine v_goto (pc := 60) (tgt := 19) F dX10_bestPair_60 (by decide) ?_
        refine v_drop (i := 5) (lo' := [some (.ref _), some (.int _), some (.int _), some (.int _), some (.int _), _]) rfl ?_
        have q := ih2 (by omega) μ3 (hJ.tr hq)
        first | (rw [bpI_t hb] at q; exact q) | (rw [bpI_f hb] at q; exact q)

set_option maxRecDepth 100000 in
theorem c_X10_oldest (l : Int32) (μ : j_M) (hM : MI μ) : Ct yX10_oldest cX10_oldest 5 (some .int) 5 ΛM [.ref 0, .int l] μ (pI fun r μ2 => r = (s_oldest l μ).1 ∧ Fm PS (s_oldest l μ).2 μ2) := by
  refine Ct.go (lo := [some (.ref 0), some (.int l), none, none, none]) (by decide) (Nat.le_of_ble_eq_true rfl) rfl rfl (fun X F => ?_)
  have F : Fx X cX10_oldest RX10 5 (some .int) ΛM := F
  obtain ⟨n, hW, hsh, htp, him⟩ := id hM
  have hn := hW.1
  have hn8 := hW.2.1
  have hnn := nn_eq hn hn8
  have ho := hW.own
  have hrw : RW μ.1 n μ := RW.self hn
  have hpw := j_pw hn8
  refine v_aload_n (pc := 0) (i := 0) F dX10_oldest_0 rfl rfl ?_
  refine v_iload_n (pc := 1) (i := 1) F dX10_oldest_1 rfl rfl ?_
  refine v_callVI (pc := 2) (As := [_]) (rest := []) (c := 10) F mX10_isLooker kX10_110 im_X10_isLooker se_X10_isLooker dX10_oldest_2 rfl rfl (by decide) (c_X10_isLooker _ n _ (by first | exact hn | assumption) hn8) (by decide) rfl rfl (Nat.le_of_ble_eq_true rfl) lm0 (fun x1 μ1 hp1 => ?_)
  rw [hp1.1, hp1.2]
  refine v_if_ne (pc := 5) (tgt := 15) F dX10_oldest_5 (by decide) (fun h5_2 => ?_) (fun h5_2 => ?_)
  · rw [b2i_0] at h5_2
    rw [Classical.not_not] at h5_2
    obtain ⟨k_l, hk_l, he_l⟩ := inR_of (by omega) h5_2
    subst he_l
    have ek_l : ix (nI k_l) = k_l := nI_clamp (by omega)
    refine v_aload_n (pc := 15) (i := 0) F dX10_oldest_15 rfl rfl ?_
    refine v_getR (pc := 16) (o := 4) F fX10_19 dX10_oldest_16 rfl lm0 ?_
    refine v_topR (y := 4) rfl ?_
    refine v_iload_n (pc := 19) (i := 1) F dX10_oldest_19 rfl rfl ?_
    refine v_ialdN (pc := 20) (k0 := k_l) F dX10_oldest_20 (lm10_4 lm0) (rfl) (by omega) (by decide) ?_
    refine v_istore_n (pc := 21) (lo' := [some (.ref _), some (.int _), some (.int _), _, _]) F dX10_oldest_21 rfl rfl (Nat.le_of_ble_eq_true rfl) rfl ?_
    refine v_iconst (pc := 22) (v := (-1)) F dX10_oldest_22 (by decide) ?_
    refine v_istore_n (pc := 23) (lo' := [some (.ref _), some (.int _), some (.int _), some (.int _), _]) F dX10_oldest_23 rfl rfl (Nat.le_of_ble_eq_true rfl) rfl ?_
    refine v_iconst (pc := 24) (v := nI 0) F dX10_oldest_24 (by decide) ?_
    refine v_istore (pc := 25) (lo' := [some (.ref _), some (.int _), some (.int _), some (.int _), some (.int _)]) F dX10_oldest_25 rfl (Nat.le_of_ble_eq_true rfl) rfl ?_
    refine j_up 100 (fun g => ∀ μ' : j_M, (Fm (fun c j => PB c j ∨ (c = 4 ∧ j = k_l)) μ μ') → V X _ 27 [some (.ref 0), some (.int (nI k_l)), some (.int ((μ.1 4 k_l))), some (.int (o2i (lK (fun g => gdE (ag μ.1 k_l g) n (alI n) k_l) g))), some (.int (nI g))] [] μ') (fun g hg ih μ' hI => ?_) 0 (Nat.zero_le _) μ (Fm.rf)
    refine v_iload (pc := 27) (i := 4) F dX10_oldest_27 rfl ?_
    refine v_bipush (pc := 29) (v := nI 100) F dX10_oldest_29 (by decide) ?_
    refine v_icmp_ge (pc := 31) (tgt := 71) F dX10_oldest_31 (by decide) (fun h31_3 => ?_) (fun h31_3 => ?_)
    · rw [nI_leI (by omega) (by omega)] at h31_3
      refine v_aload_n (pc := 71) (i := 0) F dX10_oldest_71 rfl rfl ?_
      refine v_getR (pc := 72) (o := 4) F fX10_19 dX10_oldest_72 rfl lm0 ?_
      refine v_topR (y := 4) rfl ?_
      refine v_iload_n (pc := 75) (i := 1) F dX10_oldest_75 rfl rfl ?_
      refine v_iload_n (pc := 76) (i := 2) F dX10_oldest_76 rfl rfl ?_
      refine v_iastN (pc := 77) (k0 := k_l) F dX10_oldest_77 (lm10_4 lm0) (rfl) (by omega) (by decide) ?_
      refine v_iload_n (pc := 78) (i := 3) F dX10_oldest_78 rfl rfl ?_
      refine v_ireturn (pc := 79) F dX10_oldest_79 (rfl) ?_
      have e : g = 100 := by omega
      subst e
      simp only [s_oldest, hnn, h5_2, ek_l, h31_3, ↓reduceIte]
      exact ⟨by first | exact trivial | exact rfl, PB_PS (ag_back hI)⟩
    · rw [nI_leI (by omega) (by omega)] at h31_3
      refine v_aload_n (pc := 34) (i := 0) F dX10_oldest_34 rfl rfl ?_
      refine v_getR (pc := 35) (o := 4) F fX10_19 dX10_oldest_35 rfl lm0 ?_
      refine v_topR (y := 4) rfl ?_
      refine v_iload_n (pc := 38) (i := 1) F dX10_oldest_38 rfl rfl ?_
      refine v_iload (pc := 39) (i := 4) F dX10_oldest_39 rfl ?_
      refine v_iastN (pc := 41) (k0 := k_l) F dX10_oldest_41 (lm10_4 lm0) (rfl) (by omega) (by decide) ?_
      refine v_aload_n (pc := 42) (i := 0) F dX10_oldest_42 rfl rfl ?_
      refine v_iconst (pc := 43) (v := nI 1) F dX10_oldest_43 (by decide) ?_
      refine v_aload_n (pc := 44) (i := 0) F dX10_oldest_44 rfl rfl ?_
      refine v_getI (pc := 45) F fX10_89 dX10_oldest_45 rfl lm0 ?_
      refine v_topE ((hI.1 0 1 (by omega)).trans hn) ?_
      refine v_ishl (pc := 48) F dX10_oldest_48 ?_
      refine v_topE (y := nI (2 ^ n)) (j_pow hn8) ?_
      refine v_iconst (pc := 49) (v := nI 1) F dX10_oldest_49 (by decide) ?_
      refine v_isub (pc := 50) F dX10_oldest_50 ?_
      refine v_topE (pk_sub (by omega)) ?_
      refine v_callVV (pc := 51) (As := [_]) (rest := []) (c := 10) F mX10_runs kX10_117 im_X10_runs se_X10_runs dX10_oldest_51 rfl rfl (by decide) (c_X10_runs _ n (ag μ.1 k_l g) _ (RW_ag hn hI) hn8 (ag_own ho)) (by decide) rfl rfl (Nat.le_of_ble_eq_true rfl) lm0 (fun μ4 hp4 => ?_)
      have hq := hp4
      have hw2 := (RW_ag (g := g) hn hI).keep hq.1
      have hI3 : Fm (fun c j => PB c j ∨ (c = 4 ∧ j = k_l)) μ μ4 := ((hI.pI (Or.inr ⟨rfl, rfl⟩)).tr (hq.1.mono (fun c j z => Or.inl z)))
      generalize μ4 = μ3 at hq hw2 hI3 ⊢
      refine v_aload_n (pc := 54) (i := 0) F dX10_oldest_54 rfl rfl ?_
      refine v_iload_n (pc := 55) (i := 1) F dX10_oldest_55 rfl rfl ?_
      refine v_callVI (pc := 56) (As := [_]) (rest := []) (c := 10) F mX10_isGlad kX10_231 im_X10_isGlad se_X10_isGlad dX10_oldest_56 rfl rfl (by decide) (c_X10_isGlad k_l (by omega) _) (by decide) rfl rfl (Nat.le_of_ble_eq_true rfl) lm0 (fun x5 μ5 hp5 => ?_)
      rw [hp5.1, hp5.2]
      refine v_if_eq (pc := 59) (tgt := 65) F dX10_oldest_59 (by decide) (fun hb => ?_) (fun hb => ?_)
      · rw [b2i_0, gd_eq hw2 hq.2 (by omega)] at hb
        refine v_iinc (pc := 65) (i := 4) (v := nI (g + 1)) (lo' := [some (.ref _), some (.int _), some (.int _), some (.int _), some (.int _)]) F dX10_oldest_65 rfl (j_inc _) rfl rfl ?_
        refine v_goto (pc := 68) (tgt := 27) F dX10_oldest_68 (by decide) ?_
        have q := ih (by omega) μ3 hI3
        simp only [lK, gdE, hb, ↓reduceIte] at q
        exact q
      · rw [b2i_0, gd_eq hw2 hq.2 (by omega)] at hb
        rw [Classical.not_not] at hb
        refine v_iload (pc := 62) (i := 4) F dX10_oldest_62 rfl ?_
        refine v_istore_n (pc := 64) (lo' := [some (.ref _), some (.int _), some (.int _), some (.int _), some (.int _)]) F dX10_oldest_64 rfl rfl (Nat.le_of_ble_eq_true rfl) rfl ?_
        refine v_iinc (pc := 65) (i := 4) (v := nI (g + 1)) (lo' := [some (.ref _), some (.int _), some (.int _), some (.int _), some (.int _)]) F dX10_oldest_65 rfl (j_inc _) rfl rfl ?_
        refine v_goto (pc := 68) (tgt := 27) F dX10_oldest_68 (by decide) ?_
        have q := ih (by omega) μ3 hI3
        simp only [lK, gdE, hb, ↓reduceIte] at q
        exact q
  · rw [b2i_0] at h5_2
    refine v_aload_n (pc := 8) (i := 0) F dX10_oldest_8 rfl rfl ?_
    refine v_bipush (pc := 9) (v := (-2)) F dX10_oldest_9 (by decide) ?_
    refine v_callVI (pc := 11) (As := [_]) (rest := []) (c := 10) F mX10_no kX10_96 im_X10_no se_X10_no dX10_oldest_11 rfl rfl (by decide) (c_X10_no (-2) 2 (by decide) (by decide) _) (by decide) rfl rfl (Nat.le_of_ble_eq_true rfl) lm0 (fun x7 μ7 hp7 => ?_)
    rw [hp7.1, hp7.2]
    refine v_ireturn (pc := 14) F dX10_oldest_14 (rfl) ?_
    simp only [s_oldest, rj, hnn, h5_2, ↓reduceIte]
    refine ⟨?_, ?_⟩ <;> first | exact trivial | exact rfl | exact Fm.rf

theorem lK_t {P : Nat → Bool} {k : Nat} (h : P k = true) : lK P (k + 1) = some k := if_pos h
theorem lK_f {P : Nat → Bool} {k : Nat} (h : ¬ P k = true) : lK P (k + 1) = lK P k := if_neg h

set_option maxRecDepth 100000 in
theorem c_X10_kinds (set l taken what : Int32) (μ : j_M) (hM : MI μ) : Ct yX10_kinds cX10_kinds 9 (some .int) 5 ΛM [.ref 0, .int set, .int l, .int taken, .int what] μ (pI fun r μ2 => r = (s_kinds set l taken what μ).1 ∧ Fm PS (s_kinds set l taken what μ).2 μ2) := by
  refine Ct.go (lo := [some (.ref 0), some (.int set), some (.int l), some (.int taken), some (.int what), none, none, none, none]) (by decide) (Nat.le_of_ble_eq_true rfl) rfl rfl (fun X F => ?_)
  have F : Fx X cX10_kinds RX10 5 (some .int) ΛM := F
  obtain ⟨n, hW, hsh, htp, him⟩ := id hM
  have hn := hW.1
  have hn8 := hW.2.1
  have hnn := nn_eq hn hn8
  have ho := hW.own
  have hrw : RW μ.1 n μ := RW.self hn
  have hpw := j_pw hn8
  refine v_aload_n (pc := 0) (i := 0) F dX10_kinds_0 rfl rfl ?_
  refine v_iload_n (pc := 1) (i := 1) F dX10_kinds_1 rfl rfl ?_
  refine v_callVI (pc := 2) (As := [_]) (rest := []) (c := 10) F mX10_isSet kX10_234 im_X10_isSet se_X10_isSet dX10_kinds_2 rfl rfl (by decide) (c_X10_isSet _ n _ (by first | exact hn | assumption) hn8) (by decide) rfl rfl (Nat.le_of_ble_eq_true rfl) lm0 (fun x1 μ1 hp1 => ?_)
  rw [hp1.1, hp1.2]
  refine v_if_eq (pc := 5) (tgt := 41) F dX10_kinds_5 (by decide) (fun h5_2 => ?_) (fun h5_2 => ?_)
  · rw [b2i_0] at h5_2
    refine v_aload_n (pc := 41) (i := 0) F dX10_kinds_41 rfl rfl ?_
    refine v_bipush (pc := 42) (v := (-2)) F dX10_kinds_42 (by decide) ?_
    refine v_callVI (pc := 44) (As := [_]) (rest := []) (c := 10) F mX10_no kX10_96 im_X10_no se_X10_no dX10_kinds_44 rfl rfl (by decide) (c_X10_no (-2) 2 (by decide) (by decide) _) (by decide) rfl rfl (Nat.le_of_ble_eq_true rfl) lm0 (fun x3 μ3 hp3 => ?_)
    rw [hp3.1, hp3.2]
    refine v_ireturn (pc := 47) F dX10_kinds_47 (rfl) ?_
    simp only [s_kinds, rj, hnn, h5_2, ↓reduceIte]
    refine ⟨?_, ?_⟩ <;> first | exact trivial | exact rfl | exact Fm.rf
  · rw [b2i_0] at h5_2
    rw [Classical.not_not] at h5_2
    refine v_aload_n (pc := 8) (i := 0) F dX10_kinds_8 rfl rfl ?_
    refine v_iload_n (pc := 9) (i := 2) F dX10_kinds_9 rfl rfl ?_
    refine v_callVI (pc := 10) (As := [_]) (rest := []) (c := 10) F mX10_isLooker kX10_110 im_X10_isLooker se_X10_isLooker dX10_kinds_10 rfl rfl (by decide) (c_X10_isLooker _ n _ (by first | exact hn | assumption) hn8) (by decide) rfl rfl (Nat.le_of_ble_eq_true rfl) lm0 (fun x4 μ4 hp4 => ?_)
    rw [hp4.1, hp4.2]
    refine v_if_eq (pc := 13) (tgt := 41) F dX10_kinds_13 (by decide) (fun h13_5 => ?_) (fun h13_5 => ?_)
    · rw [b2i_0] at h13_5
      refine v_aload_n (pc := 41) (i := 0) F dX10_kinds_41 rfl rfl ?_
      refine v_bipush (pc := 42) (v := (-2)) F dX10_kinds_42 (by decide) ?_
      refine v_callVI (pc := 44) (As := [_]) (rest := []) (c := 10) F mX10_no kX10_96 im_X10_no se_X10_no dX10_kinds_44 rfl rfl (by decide) (c_X10_no (-2) 2 (by decide) (by decide) _) (by decide) rfl rfl (Nat.le_of_ble_eq_true rfl) lm0 (fun x6 μ6 hp6 => ?_)
      rw [hp6.1, hp6.2]
      refine v_ireturn (pc := 47) F dX10_kinds_47 (rfl) ?_
      simp only [s_kinds, rj, hnn, h5_2, h13_5, ↓reduceIte]
      refine ⟨?_, ?_⟩ <;> first | exact trivial | exact rfl | exact Fm.rf
    · rw [b2i_0] at h13_5
      rw [Classical.not_not] at h13_5
      obtain ⟨k_l, hk_l, he_l⟩ := inR_of (by omega) h13_5
      subst he_l
      have ek_l : ix (nI k_l) = k_l := nI_clamp (by omega)
      refine v_iload_n (pc := 16) (i := 3) F dX10_kinds_16 rfl rfl ?_
      refine v_callSI (pc := 17) (As := [_]) (rest := []) F mX10_arePlaces kX10_252 sm_X10_arePlaces dX10_kinds_17 (c_X10_arePlaces _ _) (by decide) rfl rfl (Nat.le_of_ble_eq_true rfl) (fun x7 μ7 hp7 => ?_)
      rw [hp7.1, hp7.2]
      refine v_if_eq (pc := 20) (tgt := 41) F dX10_kinds_20 (by decide) (fun h20_8 => ?_) (fun h20_8 => ?_)
      · rw [b2i_0] at h20_8
        refine v_aload_n (pc := 41) (i := 0) F dX10_kinds_41 rfl rfl ?_
        refine v_bipush (pc := 42) (v := (-2)) F dX10_kinds_42 (by decide) ?_
        refine v_callVI (pc := 44) (As := [_]) (rest := []) (c := 10) F mX10_no kX10_96 im_X10_no se_X10_no dX10_kinds_44 rfl rfl (by decide) (c_X10_no (-2) 2 (by decide) (by decide) _) (by decide) rfl rfl (Nat.le_of_ble_eq_true rfl) lm0 (fun x9 μ9 hp9 => ?_)
        rw [hp9.1, hp9.2]
        refine v_ireturn (pc := 47) F dX10_kinds_47 (rfl) ?_
        simp only [s_kinds, rj, hnn, h5_2, h13_5, ek_l, h20_8, ↓reduceIte]
        refine ⟨?_, ?_⟩ <;> first | exact trivial | exact rfl | exact Fm.rf
      · rw [b2i_0] at h20_8
        rw [Classical.not_not] at h20_8
        refine v_iload (pc := 23) (i := 4) F dX10_kinds_23 rfl ?_
        refine v_iconst (pc := 25) (v := nI 0) F dX10_kinds_25 (by decide) ?_
        refine v_iconst (pc := 26) (v := nI 1) F dX10_kinds_26 (by decide) ?_
        refine v_callSI (pc := 27) (As := [_, _, _]) (rest := []) F mX10_within kX10_85 sm_X10_within dX10_kinds_27 (c_X10_withinR _ 1 2 rfl (by decide) _) (by decide) rfl rfl (Nat.le_of_ble_eq_true rfl) (fun x10 μ10 hp10 => ?_)
        rw [hp10.1, hp10.2]
        refine v_if_eq (pc := 30) (tgt := 41) F dX10_kinds_30 (by decide) (fun h30_11 => ?_) (fun h30_11 => ?_)
        · rw [b2i_0] at h30_11
          refine v_aload_n (pc := 41) (i := 0) F dX10_kinds_41 rfl rfl ?_
          refine v_bipush (pc := 42) (v := (-2)) F dX10_kinds_42 (by decide) ?_
          refine v_callVI (pc := 44) (As := [_]) (rest := []) (c := 10) F mX10_no kX10_96 im_X10_no se_X10_no dX10_kinds_44 rfl rfl (by decide) (c_X10_no (-2) 2 (by decide) (by decide) _) (by decide) rfl rfl (Nat.le_of_ble_eq_true rfl) lm0 (fun x12 μ12 hp12 => ?_)
          rw [hp12.1, hp12.2]
          refine v_ireturn (pc := 47) F dX10_kinds_47 (rfl) ?_
          simp only [s_kinds, rj, hnn, h5_2, h13_5, ek_l, h20_8, h30_11, ↓reduceIte]
          refine ⟨?_, ?_⟩ <;> first | exact trivial | exact rfl | exact Fm.rf
        · rw [b2i_0] at h30_11
          rw [Classical.not_not] at h30_11
          obtain ⟨k_what, hk_what, he_what⟩ := inR_of (by decide) h30_11
          subst he_what
          have ek_what : ix (nI k_what) = k_what := nI_clamp (by omega)
          refine v_iload_n (pc := 33) (i := 1) F dX10_kinds_33 rfl rfl ?_
          refine v_iload_n (pc := 34) (i := 2) F dX10_kinds_34 rfl rfl ?_
          refine v_callSI (pc := 35) (As := [_, _]) (rest := []) F mX10_in kX10_194 sm_X10_in dX10_kinds_35 (c_X10_inN _ k_l (by omega) _) (by decide) rfl rfl (Nat.le_of_ble_eq_true rfl) (fun x13 μ13 hp13 => ?_)
          rw [hp13.1, hp13.2]
          refine v_if_ne (pc := 38) (tgt := 48) F dX10_kinds_38 (by decide) (fun hin => ?_) (fun hin => ?_)
          · rw [b2i_0] at hin
            rw [Classical.not_not] at hin
            obtain rfl | rfl : k_what = 0 ∨ k_what = 1 := by omega
            · skip
              refine v_aload_n (pc := 48) (i := 0) F dX10_kinds_48 rfl rfl ?_
              refine v_getR (pc := 49) (o := 2) F fX10_13 dX10_kinds_49 rfl lm0 ?_
              refine v_topR (y := 2) rfl ?_
              refine v_iload_n (pc := 52) (i := 2) F dX10_kinds_52 rfl rfl ?_
              refine v_ialdN (pc := 53) (k0 := k_l) F dX10_kinds_53 (lm10_2 lm0) (rfl) (by omega) (by decide) ?_
              refine v_istore (pc := 54) (lo' := [some (.ref _), some (.int _), some (.int _), some (.int _), some (.int _), some (.int _), _, _, _]) F dX10_kinds_54 rfl (Nat.le_of_ble_eq_true rfl) rfl ?_
              refine v_aload_n (pc := 56) (i := 0) F dX10_kinds_56 rfl rfl ?_
              refine v_getR (pc := 57) (o := 3) F fX10_16 dX10_kinds_57 rfl lm0 ?_
              refine v_topR (y := 3) rfl ?_
              refine v_iload_n (pc := 60) (i := 2) F dX10_kinds_60 rfl rfl ?_
              refine v_ialdN (pc := 61) (k0 := k_l) F dX10_kinds_61 (lm10_3 lm0) (rfl) (by omega) (by decide) ?_
              refine v_istore (pc := 62) (lo' := [some (.ref _), some (.int _), some (.int _), some (.int _), some (.int _), some (.int _), some (.int _), _, _]) F dX10_kinds_62 rfl (Nat.le_of_ble_eq_true rfl) rfl ?_
              refine v_iconst (pc := 64) (v := nI 0) F dX10_kinds_64 (by decide) ?_
              refine v_istore (pc := 65) (lo' := [some (.ref _), some (.int _), some (.int _), some (.int _), some (.int _), some (.int _), some (.int _), some (.int _), _]) F dX10_kinds_65 rfl (Nat.le_of_ble_eq_true rfl) rfl ?_
              refine v_iconst (pc := 67) (v := nI 0) F dX10_kinds_67 (by decide) ?_
              refine v_istore (pc := 68) (lo' := [some (.ref _), some (.int _), some (.int _), some (.int _), some (.int _), some (.int _), some (.int _), some (.int _), some (.int _)]) F dX10_kinds_68 rfl (Nat.le_of_ble_eq_true rfl) rfl ?_
              refine j_up 6 (fun v => ∀ μ' : j_M, Fm (fun c j => PB c j ∨ (c = 2 ∧ j = k_l)) μ μ' → V X _ 70 [some (.ref 0), some (.int set), some (.int (nI k_l)), some (.int taken), some (.int (nI 0)), some (.int ((μ.1 2 k_l))), some (.int ((μ.1 3 k_l))), some (.int (bK (fun v => bl (tE (kd μ.1 k_l v) n set k_l) == taken) v)), some (.int (nI v))] [] μ') (fun v hv ih μ' hI => ?_) 0 (Nat.zero_le _) μ Fm.rf
              refine v_iload (pc := 70) (i := 8) F dX10_kinds_70 rfl ?_
              refine v_iload (pc := 72) (i := 4) F dX10_kinds_72 rfl ?_
              refine v_if_ne (pc := 74) (tgt := 82) F dX10_kinds_74 (by decide) (fun h74_15 => ?_) (fun h74_15 => ?_)
              · rw [j_eq0 (by omega)] at h74_15
                exact absurd h74_15 (by decide)
              · rw [j_eq0 (by omega)] at h74_15
                refine v_bipush (pc := 77) (v := nI 6) F dX10_kinds_77 (by decide) ?_
                refine v_goto (pc := 79) (tgt := 84) F dX10_kinds_79 (by decide) ?_
                refine v_icmp_ge (pc := 84) (tgt := 141) F dX10_kinds_84 (by decide) (fun h84_16 => ?_) (fun h84_16 => ?_)
                · rw [nI_leI (by omega) (by omega)] at h84_16
                  refine v_aload_n (pc := 141) (i := 0) F dX10_kinds_141 rfl rfl ?_
                  refine v_getR (pc := 142) (o := 2) F fX10_13 dX10_kinds_142 rfl lm0 ?_
                  refine v_topR (y := 2) rfl ?_
                  refine v_iload_n (pc := 145) (i := 2) F dX10_kinds_145 rfl rfl ?_
                  refine v_iload (pc := 146) (i := 5) F dX10_kinds_146 rfl ?_
                  refine v_iastN (pc := 148) (k0 := k_l) F dX10_kinds_148 (lm10_2 lm0) (rfl) (by omega) (by decide) ?_
                  refine v_aload_n (pc := 149) (i := 0) F dX10_kinds_149 rfl rfl ?_
                  refine v_getR (pc := 150) (o := 3) F fX10_16 dX10_kinds_150 rfl lm0 ?_
                  refine v_topR (y := 3) rfl ?_
                  refine v_iload_n (pc := 153) (i := 2) F dX10_kinds_153 rfl rfl ?_
                  refine v_iload (pc := 154) (i := 6) F dX10_kinds_154 rfl ?_
                  refine v_iastN (pc := 156) (k0 := k_l) F dX10_kinds_156 (lm10_3 lm0) (rfl) (by omega) (by decide) ?_
                  refine v_iload (pc := 157) (i := 7) F dX10_kinds_157 rfl ?_
                  refine v_ireturn (pc := 159) F dX10_kinds_159 (rfl) ?_
                  have e : v = 6 := by omega
                  subst e
                  simp only [s_kinds, hnn, h5_2, h13_5, ek_l, h20_8, h30_11, ek_what, hin, h74_15, h84_16, hin, ↓reduceIte]
                  refine ⟨by first | exact trivial | exact rfl, ?_⟩
                  exact PB_PS (kd_back hI)
                · rw [nI_leI (by omega) (by omega)] at h84_16
                  refine v_iload (pc := 87) (i := 4) F dX10_kinds_87 rfl ?_
                  refine v_if_ne (pc := 89) (tgt := 103) F dX10_kinds_89 (by decide) (fun h89_17 => ?_) (fun h89_17 => ?_)
                  · rw [j_eq0 (by omega)] at h89_17
                    exact absurd h89_17 (by decide)
                  · rw [j_eq0 (by omega)] at h89_17
                    refine v_aload_n (pc := 92) (i := 0) F dX10_kinds_92 rfl rfl ?_
                    refine v_getR (pc := 93) (o := 2) F fX10_13 dX10_kinds_93 rfl lm0 ?_
                    refine v_topR (y := 2) rfl ?_
                    refine v_iload_n (pc := 96) (i := 2) F dX10_kinds_96 rfl rfl ?_
                    refine v_iload (pc := 97) (i := 8) F dX10_kinds_97 rfl ?_
                    refine v_iastN (pc := 99) (k0 := k_l) F dX10_kinds_99 (lm10_2 lm0) (rfl) (by omega) (by decide) ?_
                    refine v_goto (pc := 100) (tgt := 111) F dX10_kinds_100 (by decide) ?_
                    refine v_aload_n (pc := 111) (i := 0) F dX10_kinds_111 rfl rfl ?_
                    refine v_iload_n (pc := 112) (i := 1) F dX10_kinds_112 rfl rfl ?_
                    refine v_callVV (pc := 113) (As := [_]) (rest := []) (c := 10) F mX10_runs kX10_117 im_X10_runs se_X10_runs dX10_kinds_113 rfl rfl (by decide) (c_X10_runs _ n (kd μ.1 k_l v) _ (RW_kd hn hI) hn8 (kd_own ho)) (by decide) rfl rfl (Nat.le_of_ble_eq_true rfl) lm0 (fun μ18 hp18 => ?_)
                    have hq := hp18
                    have hw2 := (RW_kd (g := v) hn hI).keep hq.1
                    have hI3 : Fm (fun c j => PB c j ∨ (c = 2 ∧ j = k_l)) μ μ18 := ((hI.pI (Or.inr ⟨rfl, rfl⟩)).tr (hq.1.mono (fun c j z => Or.inl z)))
                    generalize μ18 = μ3 at hq hw2 hI3 ⊢
                    refine v_aload_n (pc := 116) (i := 0) F dX10_kinds_116 rfl rfl ?_
                    refine v_getR (pc := 117) (o := 18) F fX10_62 dX10_kinds_117 rfl lm0 ?_
                    refine v_topR (y := 18) rfl ?_
                    refine v_iload_n (pc := 120) (i := 2) F dX10_kinds_120 rfl rfl ?_
                    refine v_ialdN (pc := 121) (k0 := k_l) F dX10_kinds_121 (lm10_27 lm0) (rfl) (by omega) (by decide) ?_
                    refine v_iload_n (pc := 122) (i := 3) F dX10_kinds_122 rfl rfl ?_
                    refine v_icmp_ne (pc := 123) (tgt := 135) F dX10_kinds_123 (by decide) (fun hb => ?_) (fun hb => ?_)
                    · rw [(hq.2.2 k_l (by omega)).1] at hb
                      refine v_iinc (pc := 135) (i := 8) (v := nI (v + 1)) (lo' := [some (.ref _), some (.int _), some (.int _), some (.int _), some (.int _), some (.int _), some (.int _), some (.int _), some (.int _)]) F dX10_kinds_135 rfl (j_inc _) rfl rfl ?_
                      refine v_goto (pc := 138) (tgt := 70) F dX10_kinds_138 (by decide) ?_
                      have q := ih (by omega) μ3 hI3
                      first | (rw [bK_t (k := v) (by simpa [tE] using hb)] at q; exact q) | (rw [bK_f (k := v) (by simpa [tE] using hb)] at q; exact q)
                    · rw [(hq.2.2 k_l (by omega)).1] at hb
                      refine v_iload (pc := 126) (i := 7) F dX10_kinds_126 rfl ?_
                      refine v_iconst (pc := 128) (v := nI 1) F dX10_kinds_128 (by decide) ?_
                      refine v_iload (pc := 129) (i := 8) F dX10_kinds_129 rfl ?_
                      refine v_ishl (pc := 131) F dX10_kinds_131 ?_
                      refine v_ior (pc := 132) F dX10_kinds_132 ?_
                      refine v_istore (pc := 133) (lo' := [some (.ref _), some (.int _), some (.int _), some (.int _), some (.int _), some (.int _), some (.int _), some (.int _), some (.int _)]) F dX10_kinds_133 rfl (Nat.le_of_ble_eq_true rfl) rfl ?_
                      refine v_iinc (pc := 135) (i := 8) (v := nI (v + 1)) (lo' := [some (.ref _), some (.int _), some (.int _), some (.int _), some (.int _), some (.int _), some (.int _), some (.int _), some (.int _)]) F dX10_kinds_135 rfl (j_inc _) rfl rfl ?_
                      refine v_goto (pc := 138) (tgt := 70) F dX10_kinds_138 (by decide) ?_
                      have q := ih (by omega) μ3 hI3
                      first | (rw [bK_t (k := v) (by simpa [tE] using hb)] at q; exact q) | (rw [bK_f (k := v) (by simpa [tE] using hb)] at q; exact q)
            · skip
              refine v_aload_n (pc := 48) (i := 0) F dX10_kinds_48 rfl rfl ?_
              refine v_getR (pc := 49) (o := 2) F fX10_13 dX10_kinds_49 rfl lm0 ?_
              refine v_topR (y := 2) rfl ?_
              refine v_iload_n (pc := 52) (i := 2) F dX10_kinds_52 rfl rfl ?_
              refine v_ialdN (pc := 53) (k0 := k_l) F dX10_kinds_53 (lm10_2 lm0) (rfl) (by omega) (by decide) ?_
              refine v_istore (pc := 54) (lo' := [some (.ref _), some (.int _), some (.int _), some (.int _), some (.int _), some (.int _), _, _, _]) F dX10_kinds_54 rfl (Nat.le_of_ble_eq_true rfl) rfl ?_
              refine v_aload_n (pc := 56) (i := 0) F dX10_kinds_56 rfl rfl ?_
              refine v_getR (pc := 57) (o := 3) F fX10_16 dX10_kinds_57 rfl lm0 ?_
              refine v_topR (y := 3) rfl ?_
              refine v_iload_n (pc := 60) (i := 2) F dX10_kinds_60 rfl rfl ?_
              refine v_ialdN (pc := 61) (k0 := k_l) F dX10_kinds_61 (lm10_3 lm0) (rfl) (by omega) (by decide) ?_
              refine v_istore (pc := 62) (lo' := [some (.ref _), some (.int _), some (.int _), some (.int _), some (.int _), some (.int _), some (.int _), _, _]) F dX10_kinds_62 rfl (Nat.le_of_ble_eq_true rfl) rfl ?_
              refine v_iconst (pc := 64) (v := nI 0) F dX10_kinds_64 (by decide) ?_
              refine v_istore (pc := 65) (lo' := [some (.ref _), some (.int _), some (.int _), some (.int _), some (.int _), some (.int _), some (.int _), some (.int _), _]) F dX10_kinds_65 rfl (Nat.le_of_ble_eq_true rfl) rfl ?_
              refine v_iconst (pc := 67) (v := nI 0) F dX10_kinds_67 (by decide) ?_
              refine v_istore (pc := 68) (lo' := [some (.ref _), some (.int _), some (.int _), some (.int _), some (.int _), some (.int _), some (.int _), some (.int _), some (.int _)]) F dX10_kinds_68 rfl (Nat.le_of_ble_eq_true rfl) rfl ?_
              refine j_up 8 (fun v => ∀ μ' : j_M, Fm (fun c j => PB c j ∨ (c = 3 ∧ j = k_l)) μ μ' → V X _ 70 [some (.ref 0), some (.int set), some (.int (nI k_l)), some (.int taken), some (.int (nI 1)), some (.int ((μ.1 2 k_l))), some (.int ((μ.1 3 k_l))), some (.int (bK (fun v => bl (tE (ow μ.1 k_l v) n set k_l) == taken) v)), some (.int (nI v))] [] μ') (fun v hv ih μ' hI => ?_) 0 (Nat.zero_le _) μ Fm.rf
              refine v_iload (pc := 70) (i := 8) F dX10_kinds_70 rfl ?_
              refine v_iload (pc := 72) (i := 4) F dX10_kinds_72 rfl ?_
              refine v_if_ne (pc := 74) (tgt := 82) F dX10_kinds_74 (by decide) (fun h74_20 => ?_) (fun h74_20 => ?_)
              · rw [j_eq0 (by omega)] at h74_20
                refine v_bipush (pc := 82) (v := nI 8) F dX10_kinds_82 (by decide) ?_
                refine v_icmp_ge (pc := 84) (tgt := 141) F dX10_kinds_84 (by decide) (fun h84_21 => ?_) (fun h84_21 => ?_)
                · rw [nI_leI (by omega) (by omega)] at h84_21
                  refine v_aload_n (pc := 141) (i := 0) F dX10_kinds_141 rfl rfl ?_
                  refine v_getR (pc := 142) (o := 2) F fX10_13 dX10_kinds_142 rfl lm0 ?_
                  refine v_topR (y := 2) rfl ?_
                  refine v_iload_n (pc := 145) (i := 2) F dX10_kinds_145 rfl rfl ?_
                  refine v_iload (pc := 146) (i := 5) F dX10_kinds_146 rfl ?_
                  refine v_iastN (pc := 148) (k0 := k_l) F dX10_kinds_148 (lm10_2 lm0) (rfl) (by omega) (by decide) ?_
                  refine v_aload_n (pc := 149) (i := 0) F dX10_kinds_149 rfl rfl ?_
                  refine v_getR (pc := 150) (o := 3) F fX10_16 dX10_kinds_150 rfl lm0 ?_
                  refine v_topR (y := 3) rfl ?_
                  refine v_iload_n (pc := 153) (i := 2) F dX10_kinds_153 rfl rfl ?_
                  refine v_iload (pc := 154) (i := 6) F dX10_kinds_154 rfl ?_
                  refine v_iastN (pc := 156) (k0 := k_l) F dX10_kinds_156 (lm10_3 lm0) (rfl) (by omega) (by decide) ?_
                  refine v_iload (pc := 157) (i := 7) F dX10_kinds_157 rfl ?_
                  refine v_ireturn (pc := 159) F dX10_kinds_159 (rfl) ?_
                  have e : v = 8 := by omega
                  subst e
                  simp only [s_kinds, hnn, h5_2, h13_5, ek_l, h20_8, h30_11, ek_what, hin, h74_20, h84_21, hin, ↓reduceIte]
                  refine ⟨by first | exact trivial | exact rfl, ?_⟩
                  exact PB_PS (ow_back hI)
                · rw [nI_leI (by omega) (by omega)] at h84_21
                  refine v_iload (pc := 87) (i := 4) F dX10_kinds_87 rfl ?_
                  refine v_if_ne (pc := 89) (tgt := 103) F dX10_kinds_89 (by decide) (fun h89_22 => ?_) (fun h89_22 => ?_)
                  · rw [j_eq0 (by omega)] at h89_22
                    refine v_aload_n (pc := 103) (i := 0) F dX10_kinds_103 rfl rfl ?_
                    refine v_getR (pc := 104) (o := 3) F fX10_16 dX10_kinds_104 rfl lm0 ?_
                    refine v_topR (y := 3) rfl ?_
                    refine v_iload_n (pc := 107) (i := 2) F dX10_kinds_107 rfl rfl ?_
                    refine v_iload (pc := 108) (i := 8) F dX10_kinds_108 rfl ?_
                    refine v_iastN (pc := 110) (k0 := k_l) F dX10_kinds_110 (lm10_3 lm0) (rfl) (by omega) (by decide) ?_
                    refine v_aload_n (pc := 111) (i := 0) F dX10_kinds_111 rfl rfl ?_
                    refine v_iload_n (pc := 112) (i := 1) F dX10_kinds_112 rfl rfl ?_
                    refine v_callVV (pc := 113) (As := [_]) (rest := []) (c := 10) F mX10_runs kX10_117 im_X10_runs se_X10_runs dX10_kinds_113 rfl rfl (by decide) (c_X10_runs _ n (ow μ.1 k_l v) _ (RW_ow hn hI) hn8 (ow_own (by omega) ho)) (by decide) rfl rfl (Nat.le_of_ble_eq_true rfl) lm0 (fun μ23 hp23 => ?_)
                    have hq := hp23
                    have hw2 := (RW_ow (g := v) hn hI).keep hq.1
                    have hI3 : Fm (fun c j => PB c j ∨ (c = 3 ∧ j = k_l)) μ μ23 := ((hI.pI (Or.inr ⟨rfl, rfl⟩)).tr (hq.1.mono (fun c j z => Or.inl z)))
                    generalize μ23 = μ3 at hq hw2 hI3 ⊢
                    refine v_aload_n (pc := 116) (i := 0) F dX10_kinds_116 rfl rfl ?_
                    refine v_getR (pc := 117) (o := 18) F fX10_62 dX10_kinds_117 rfl lm0 ?_
                    refine v_topR (y := 18) rfl ?_
                    refine v_iload_n (pc := 120) (i := 2) F dX10_kinds_120 rfl rfl ?_
                    refine v_ialdN (pc := 121) (k0 := k_l) F dX10_kinds_121 (lm10_27 lm0) (rfl) (by omega) (by decide) ?_
                    refine v_iload_n (pc := 122) (i := 3) F dX10_kinds_122 rfl rfl ?_
                    refine v_icmp_ne (pc := 123) (tgt := 135) F dX10_kinds_123 (by decide) (fun hb => ?_) (fun hb => ?_)
                    · rw [(hq.2.2 k_l (by omega)).1] at hb
                      refine v_iinc (pc := 135) (i := 8) (v := nI (v + 1)) (lo' := [some (.ref _), some (.int _), some (.int _), some (.int _), some (.int _), some (.int _), some (.int _), some (.int _), some (.int _)]) F dX10_kinds_135 rfl (j_inc _) rfl rfl ?_
                      refine v_goto (pc := 138) (tgt := 70) F dX10_kinds_138 (by decide) ?_
                      have q := ih (by omega) μ3 hI3
                      first | (rw [bK_t (k := v) (by simpa [tE] using hb)] at q; exact q) | (rw [bK_f (k := v) (by simpa [tE] using hb)] at q; exact q)
                    · rw [(hq.2.2 k_l (by omega)).1] at hb
                      refine v_iload (pc := 126) (i := 7) F dX10_kinds_126 rfl ?_
                      refine v_iconst (pc := 128) (v := nI 1) F dX10_kinds_128 (by decide) ?_
                      refine v_iload (pc := 129) (i := 8) F dX10_kinds_129 rfl ?_
                      refine v_ishl (pc := 131) F dX10_kinds_131 ?_
                      refine v_ior (pc := 132) F dX10_kinds_132 ?_
                      refine v_istore (pc := 133) (lo' := [some (.ref _), some (.int _), some (.int _), some (.int _), some (.int _), some (.int _), some (.int _), some (.int _), some (.int _)]) F dX10_kinds_133 rfl (Nat.le_of_ble_eq_true rfl) rfl ?_
                      refine v_iinc (pc := 135) (i := 8) (v := nI (v + 1)) (lo' := [some (.ref _), some (.int _), some (.int _), some (.int _), some (.int _), some (.int _), some (.int _), some (.int _), some (.int _)]) F dX10_kinds_135 rfl (j_inc _) rfl rfl ?_
                      refine v_goto (pc := 138) (tgt := 70) F dX10_kinds_138 (by decide) ?_
                      have q := ih (by omega) μ3 hI3
                      first | (rw [bK_t (k := v) (by simpa [tE] using hb)] at q; exact q) | (rw [bK_f (k := v) (by simpa [tE] using hb)] at q; exact q)
                  · rw [j_eq0 (by omega)] at h89_22
                    exact absurd h89_22 (by decide)
              · rw [j_eq0 (by omega)] at h74_20
                exact absurd h74_20 (by decide)
          · rw [b2i_0] at hin
            refine v_aload_n (pc := 41) (i := 0) F dX10_kinds_41 rfl rfl ?_
            refine v_bipush (pc := 42) (v := (-2)) F dX10_kinds_42 (by decide) ?_
            refine v_callVI (pc := 44) (As := [_]) (rest := []) (c := 10) F mX10_no kX10_96 im_X10_no se_X10_no dX10_kinds_44 rfl rfl (by decide) (c_X10_no (-2) 2 (by decide) (by decide) _) (by decide) rfl rfl (Nat.le_of_ble_eq_true rfl) lm0 (fun x25 μ25 hp25 => ?_)
            rw [hp25.1, hp25.2]
            refine v_ireturn (pc := 47) F dX10_kinds_47 (rfl) ?_
            simp only [s_kinds, rj, hnn, h5_2, h13_5, ek_l, h20_8, h30_11, ek_what, hin, ↓reduceIte]
            refine ⟨?_, ?_⟩ <;> first | exact trivial | exact rfl | exact Fm.rf

set_option maxRecDepth 100000 in
theorem c_X10_says (s k : Int32) (μ : j_M) (hM : MI μ) : Ct yX10_says cX10_says 4 (some .int) 5 ΛM [.ref 0, .int s, .int k] μ (pI fun r μ2 => r = (s_says s k μ).1 ∧ Fm PS (s_says s k μ).2 μ2) := by
  refine Ct.go (lo := [some (.ref 0), some (.int s), some (.int k), none]) (by decide) (Nat.le_of_ble_eq_true rfl) rfl rfl (fun X F => ?_)
  have F : Fx X cX10_says RX10 5 (some .int) ΛM := F
  obtain ⟨n, hW, hsh, htp, him⟩ := id hM
  have hn := hW.1
  have hn8 := hW.2.1
  have hnn := nn_eq hn hn8
  have ho := hW.own
  have hrw : RW μ.1 n μ := RW.self hn
  have hpw := j_pw hn8
  refine v_iload_n (pc := 0) (i := 1) F dX10_says_0 rfl rfl ?_
  refine v_callSI (pc := 1) (As := [_]) (rest := []) F mX10_isShelf kX10_92 sm_X10_isShelf dX10_says_1 (c_X10_isShelf _ _) (by decide) rfl rfl (Nat.le_of_ble_eq_true rfl) (fun x1 μ1 hp1 => ?_)
  rw [hp1.1, hp1.2]
  refine v_if_eq (pc := 4) (tgt := 16) F dX10_says_4 (by decide) (fun h4_2 => ?_) (fun h4_2 => ?_)
  · rw [b2i_0] at h4_2
    refine v_aload_n (pc := 16) (i := 0) F dX10_says_16 rfl rfl ?_
    refine v_bipush (pc := 17) (v := (-2)) F dX10_says_17 (by decide) ?_
    refine v_callVI (pc := 19) (As := [_]) (rest := []) (c := 10) F mX10_no kX10_96 im_X10_no se_X10_no dX10_says_19 rfl rfl (by decide) (c_X10_no (-2) 2 (by decide) (by decide) _) (by decide) rfl rfl (Nat.le_of_ble_eq_true rfl) lm0 (fun x3 μ3 hp3 => ?_)
    rw [hp3.1, hp3.2]
    refine v_ireturn (pc := 22) F dX10_says_22 (rfl) ?_
    simp only [s_says, rj, hnn, h4_2, ↓reduceIte]
    refine ⟨?_, ?_⟩ <;> first | exact trivial | exact rfl | exact Fm.rf
  · rw [b2i_0] at h4_2
    rw [Classical.not_not] at h4_2
    obtain ⟨k_s, hk_s, he_s⟩ := inR_of (by decide) h4_2
    subst he_s
    have ek_s : ix (nI k_s) = k_s := nI_clamp (by omega)
    refine v_iload_n (pc := 7) (i := 2) F dX10_says_7 rfl rfl ?_
    refine v_iconst (pc := 8) (v := nI 0) F dX10_says_8 (by decide) ?_
    refine v_iconst (pc := 9) (v := nI 5) F dX10_says_9 (by decide) ?_
    refine v_callSI (pc := 10) (As := [_, _, _]) (rest := []) F mX10_within kX10_85 sm_X10_within dX10_says_10 (c_X10_withinR _ 5 6 rfl (by decide) _) (by decide) rfl rfl (Nat.le_of_ble_eq_true rfl) (fun x4 μ4 hp4 => ?_)
    rw [hp4.1, hp4.2]
    refine v_if_ne (pc := 13) (tgt := 23) F dX10_says_13 (by decide) (fun h13_5 => ?_) (fun h13_5 => ?_)
    · rw [b2i_0] at h13_5
      rw [Classical.not_not] at h13_5
      obtain ⟨k_k, hk_k, he_k⟩ := inR_of (by decide) h13_5
      subst he_k
      have ek_k : ix (nI k_k) = k_k := nI_clamp (by omega)
      refine v_aload_n (pc := 23) (i := 0) F dX10_says_23 rfl rfl ?_
      refine v_iload_n (pc := 24) (i := 1) F dX10_says_24 rfl rfl ?_
      refine v_callVI (pc := 25) (As := [_]) (rest := []) (c := 10) F mX10_isRow kX10_100 im_X10_isRow se_X10_isRow dX10_says_25 rfl rfl (by decide) (c_X10_isRow k_s (by omega) _) (by decide) rfl rfl (Nat.le_of_ble_eq_true rfl) lm0 (fun x6 μ6 hp6 => ?_)
      rw [hp6.1, hp6.2]
      refine v_if_eq (pc := 28) (tgt := 38) F dX10_says_28 (by decide) (fun hro => ?_) (fun hro => ?_)
      · rw [b2i_0] at hro
        have hq0 := SH_no (hsh k_s (by omega)) hro
        rcases hq0 with hm1 | ⟨l9, hl9, hh⟩
        · skip
          refine v_aload_n (pc := 38) (i := 0) F dX10_says_38 rfl rfl ?_
          refine v_getR (pc := 39) (o := 10) F fX10_37 dX10_says_39 rfl lm0 ?_
          refine v_topR (y := 10) rfl ?_
          refine v_iload_n (pc := 42) (i := 1) F dX10_says_42 rfl rfl ?_
          refine v_ialdN (pc := 43) (k0 := k_s) F dX10_says_43 (lm10_17 lm0) (rfl) (by omega) (by decide) ?_
          refine v_topE (hm1) ?_
          refine v_if_ge (pc := 44) (tgt := 54) F dX10_says_44 (by decide) (fun h0 => ?_) (fun h0 => ?_)
          · skip
            exact absurd h0 (by decide)
          · skip
            refine v_aload_n (pc := 47) (i := 0) F dX10_says_47 rfl rfl ?_
            refine v_bipush (pc := 48) (v := (-4)) F dX10_says_48 (by decide) ?_
            refine v_callVI (pc := 50) (As := [_]) (rest := []) (c := 10) F mX10_no kX10_96 im_X10_no se_X10_no dX10_says_50 rfl rfl (by decide) (c_X10_no (-4) 4 (by decide) (by decide) _) (by decide) rfl rfl (Nat.le_of_ble_eq_true rfl) lm0 (fun x9 μ9 hp9 => ?_)
            rw [hp9.1, hp9.2]
            refine v_ireturn (pc := 53) F dX10_says_53 (rfl) ?_
            first | (simp only [s_says, rj, hnn, h4_2, ek_s, h13_5, ek_k, hro, h0, hm1, ↓reduceIte]; refine ⟨?_, ?_⟩ <;> first | exact trivial | exact rfl | exact Fm.rf) | (exfalso; exact h0 (by rw [j_ge0 (by omega)]; trivial))
        · skip
          have hm1 : ¬ μ.1 10 k_s = -1 := by rw [hh]; exact j_m1 (by omega)
          have ekh : ix (μ.1 10 k_s) - 10 = l9 := by rw [hh, ix_nI (by omega)]; omega
          refine v_aload_n (pc := 38) (i := 0) F dX10_says_38 rfl rfl ?_
          refine v_getR (pc := 39) (o := 10) F fX10_37 dX10_says_39 rfl lm0 ?_
          refine v_topR (y := 10) rfl ?_
          refine v_iload_n (pc := 42) (i := 1) F dX10_says_42 rfl rfl ?_
          refine v_ialdN (pc := 43) (k0 := k_s) F dX10_says_43 (lm10_17 lm0) (rfl) (by omega) (by decide) ?_
          refine v_topE (hh) ?_
          refine v_if_ge (pc := 44) (tgt := 54) F dX10_says_44 (by decide) (fun h0 => ?_) (fun h0 => ?_)
          · rw [j_ge0 (by omega)] at h0
            refine v_aload_n (pc := 54) (i := 0) F dX10_says_54 rfl rfl ?_
            refine v_getR (pc := 55) (o := 10) F fX10_37 dX10_says_55 rfl lm0 ?_
            refine v_topR (y := 10) rfl ?_
            refine v_iload_n (pc := 58) (i := 1) F dX10_says_58 rfl rfl ?_
            refine v_ialdN (pc := 59) (k0 := k_s) F dX10_says_59 (lm10_17 lm0) (rfl) (by omega) (by decide) ?_
            refine v_topE (hh) ?_
            refine v_bipush (pc := 60) (v := nI 10) F dX10_says_60 (by decide) ?_
            refine v_isub (pc := 62) F dX10_says_62 ?_
            refine v_topE (y := nI l9) (by rw [pk_sub (by omega)]; congr 1; omega) ?_
            refine v_istore_n (pc := 63) (lo' := [some (.ref _), some (.int _), some (.int _), some (.int _)]) F dX10_says_63 rfl rfl (Nat.le_of_ble_eq_true rfl) rfl ?_
            refine v_aload_n (pc := 64) (i := 0) F dX10_says_64 rfl rfl ?_
            refine v_getR (pc := 65) (o := 2) F fX10_13 dX10_says_65 rfl lm0 ?_
            refine v_topR (y := 2) rfl ?_
            refine v_iload_n (pc := 68) (i := 3) F dX10_says_68 rfl rfl ?_
            refine v_ialdN (pc := 69) (k0 := l9) F dX10_says_69 (lm10_2 lm0) (rfl) (by omega) (by decide) ?_
            refine v_iload_n (pc := 70) (i := 2) F dX10_says_70 rfl rfl ?_
            refine v_callSI (pc := 71) (As := [_, _]) (rest := []) F mX10_isUnder kX10_113 sm_X10_isUnder dX10_says_71 (c_X10_isUnder _ _ _) (by decide) rfl rfl (Nat.le_of_ble_eq_true rfl) (fun x11 μ11 hp11 => ?_)
            rw [hp11.1, hp11.2, b2i_congr uB_eq]
            refine v_if_ne (pc := 74) (tgt := 84) F dX10_says_74 (by decide) (fun hu => ?_) (fun hu => ?_)
            · rw [b2i_0] at hu
              rw [Classical.not_not] at hu
              refine v_iload_n (pc := 84) (i := 2) F dX10_says_84 rfl rfl ?_
              refine v_if_ne (pc := 85) (tgt := 95) F dX10_says_85 (by decide) (fun hk0 => ?_) (fun hk0 => ?_)
              · skip
                refine v_aload_n (pc := 95) (i := 0) F dX10_says_95 rfl rfl ?_
                refine v_iconst (pc := 96) (v := nI 1) F dX10_says_96 (by decide) ?_
                refine v_iload_n (pc := 97) (i := 3) F dX10_says_97 rfl rfl ?_
                refine v_ishl (pc := 98) F dX10_says_98 ?_
                refine v_callVV (pc := 99) (As := [_]) (rest := []) (c := 10) F mX10_runs kX10_117 im_X10_runs se_X10_runs dX10_says_99 rfl rfl (by decide) (c_X10_runs _ n μ.1 _ hrw hn8 ho) (by decide) rfl rfl (Nat.le_of_ble_eq_true rfl) lm0 (fun μ14 hp14 => ?_)
                have hq := hp14
                have hw2 := hrw.keep hq.1
                generalize μ14 = μ' at hq hw2 ⊢
                refine v_aload_n (pc := 102) (i := 0) F dX10_says_102 rfl rfl ?_
                refine v_getR (pc := 103) (o := 18) F fX10_62 dX10_says_103 rfl lm0 ?_
                refine v_topR (y := 18) rfl ?_
                refine v_iload_n (pc := 106) (i := 3) F dX10_says_106 rfl rfl ?_
                refine v_ialdN (pc := 107) (k0 := l9) F dX10_says_107 (lm10_27 lm0) (rfl) (by omega) (by decide) ?_
                refine v_ireturn (pc := 108) F dX10_says_108 (rfl) ?_
                simp only [s_says, rj, hnn, h4_2, ek_s, h13_5, ek_k, hro, h0, hu, hk0, hm1, ekh, ↓reduceIte]
                exact ⟨(hq.2.2 l9 (by omega)).1, PB_PS hq.1⟩
              · skip
                refine v_aload_n (pc := 88) (i := 0) F dX10_says_88 rfl rfl ?_
                refine v_getR (pc := 89) (o := 4) F fX10_19 dX10_says_89 rfl lm0 ?_
                refine v_topR (y := 4) rfl ?_
                refine v_iload_n (pc := 92) (i := 3) F dX10_says_92 rfl rfl ?_
                refine v_ialdN (pc := 93) (k0 := l9) F dX10_says_93 (lm10_4 lm0) (rfl) (by omega) (by decide) ?_
                refine v_ireturn (pc := 94) F dX10_says_94 (rfl) ?_
                simp only [s_says, rj, hnn, h4_2, ek_s, h13_5, ek_k, hro, h0, hu, hk0, hm1, ekh, ↓reduceIte]
                refine ⟨?_, ?_⟩ <;> first | exact trivial | exact rfl | exact Fm.rf
            · rw [b2i_0] at hu
              refine v_aload_n (pc := 77) (i := 0) F dX10_says_77 rfl rfl ?_
              refine v_bipush (pc := 78) (v := (-3)) F dX10_says_78 (by decide) ?_
              refine v_callVI (pc := 80) (As := [_]) (rest := []) (c := 10) F mX10_no kX10_96 im_X10_no se_X10_no dX10_says_80 rfl rfl (by decide) (c_X10_no (-3) 3 (by decide) (by decide) _) (by decide) rfl rfl (Nat.le_of_ble_eq_true rfl) lm0 (fun x15 μ15 hp15 => ?_)
              rw [hp15.1, hp15.2]
              refine v_ireturn (pc := 83) F dX10_says_83 (rfl) ?_
              simp only [s_says, rj, hnn, h4_2, ek_s, h13_5, ek_k, hro, h0, hu, hm1, ekh, ↓reduceIte]
              refine ⟨?_, ?_⟩ <;> first | exact trivial | exact rfl | exact Fm.rf
          · rw [j_ge0 (by omega)] at h0
            exact (h0 trivial).elim
      · rw [b2i_0] at hro
        rw [Classical.not_not] at hro
        refine v_aload_n (pc := 31) (i := 0) F dX10_says_31 rfl rfl ?_
        refine v_bipush (pc := 32) (v := (-3)) F dX10_says_32 (by decide) ?_
        refine v_callVI (pc := 34) (As := [_]) (rest := []) (c := 10) F mX10_no kX10_96 im_X10_no se_X10_no dX10_says_34 rfl rfl (by decide) (c_X10_no (-3) 3 (by decide) (by decide) _) (by decide) rfl rfl (Nat.le_of_ble_eq_true rfl) lm0 (fun x16 μ16 hp16 => ?_)
        rw [hp16.1, hp16.2]
        refine v_ireturn (pc := 37) F dX10_says_37 (rfl) ?_
        simp only [s_says, rj, hnn, h4_2, ek_s, h13_5, ek_k, hro, ↓reduceIte]
        refine ⟨?_, ?_⟩ <;> first | exact trivial | exact rfl | exact Fm.rf
    · rw [b2i_0] at h13_5
      refine v_aload_n (pc := 16) (i := 0) F dX10_says_16 rfl rfl ?_
      refine v_bipush (pc := 17) (v := (-2)) F dX10_says_17 (by decide) ?_
      refine v_callVI (pc := 19) (As := [_]) (rest := []) (c := 10) F mX10_no kX10_96 im_X10_no se_X10_no dX10_says_19 rfl rfl (by decide) (c_X10_no (-2) 2 (by decide) (by decide) _) (by decide) rfl rfl (Nat.le_of_ble_eq_true rfl) lm0 (fun x17 μ17 hp17 => ?_)
      rw [hp17.1, hp17.2]
      refine v_ireturn (pc := 22) F dX10_says_22 (rfl) ?_
      simp only [s_says, rj, hnn, h4_2, ek_s, h13_5, ↓reduceIte]
      refine ⟨?_, ?_⟩ <;> first | exact trivial | exact rfl | exact Fm.rf
