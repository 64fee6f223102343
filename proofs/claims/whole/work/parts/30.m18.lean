/-! the reference's draws -/
def sdN (s : Int32) : Int32 := s * 1103515245 + 12345
def dvY (s : Int32) : Nat := (s.toUInt32 >>> 16).toNat
def drv (s : Int32) (m : Nat) : Nat := dvY s % m
theorem dvY_lt (s : Int32) : dvY s < 65536 := by
  unfold dvY
  have h := s.toUInt32.toNat_lt
  simp only [UInt32.toNat_shiftRight, Nat.shiftRight_eq_div_pow]
  simp
  omega
theorem u_nI (x : UInt32) : x.toInt32 = nI x.toNat := by
  have h : x.toInt32 = (UInt32.ofNat x.toNat).toInt32 := congrArg UInt32.toInt32 (UInt32.ofNat_toNat).symm
  rw [h]; rfl
theorem dv_y (s : Int32) : (s.toUInt32 >>> ((nI 16).toUInt32 &&& Int32.toUInt32 31)).toInt32 = nI (dvY s) := u_nI _
theorem nI_mod {a m : Nat} (ha : a < 2 ^ 31) (h0 : 0 < m) (hm : m < 2 ^ 31) : nI a - nI a / nI m * nI m = nI (a % m) := by
  rw [pk_div ha h0 hm, pk_mul, pk_sub (Nat.div_mul_le_self a m)]
  congr 1
  have := Nat.div_add_mod a m
  rw [Nat.mul_comm] at this
  omega
theorem drv_lt {s : Int32} {m : Nat} (h : 0 < m) : drv s m < m := Nat.mod_lt _ h
def drM (μ : j_M) : j_M := j_pI μ 0 10 (sdN (μ.1 0 10))
def cmS (μ : j_M) : Nat → Int32 × j_M
  | 0 => (0, μ)
  | l + 1 => (if nI (drv (sdN ((cmS μ l).2.1 0 10)) 12) < (cmS μ l).2.1 6 l then (cmS μ l).1 ||| ((1 : Int32) <<< (nI l &&& 31)) else (cmS μ l).1, drM (cmS μ l).2)
def fiM (μ : j_M) : Nat → j_M
  | 0 => μ
  | p + 1 => if (fiM μ p).1 1 p = -1 then j_pI (drM (fiM μ p)) 1 p (nI (drv (sdN ((fiM μ p).1 0 10)) 8)) else fiM μ p
def fi12 (μ : j_M) : j_M := fiM μ 12
def chM (n : Nat) (μ : j_M) : Nat → Int32 × j_M
  | 0 => (0, μ)
  | i + 1 => ((chM n μ i).1 + (s_goes (cmS (chM n μ i).2 n).1 (cmS (chM n μ i).2 n).2).1, fi12 (s_goes (cmS (chM n μ i).2 n).1 (cmS (chM n μ i).2 n).2).2)
def s_christmases (k : Int32) (μ : j_M) : Int32 × j_M := if inB 1 40 k = true then chM (nn μ) μ (ix k) else rj (-2) 2 μ

set_option maxRecDepth 100000 in
theorem c_X10_draw (m : Nat) (h0 : 0 < m) (hm : m < 100) (μ : j_M) : Ct yX10_draw cX10_draw 2 (some .int) 0 ΛM [.ref 0, .int (nI m)] μ (pI fun r μ2 => r = nI (drv (sdN (μ.1 0 10)) m) ∧ μ2 = drM μ) := by
  refine Ct.go (lo := [some (.ref 0), some (.int (nI m))]) (by decide) (Nat.le_of_ble_eq_true rfl) rfl rfl (fun X F => ?_)
  have F : Fx X cX10_draw RX10 0 (some .int) ΛM := F
  refine v_aload_n (pc := 0) (i := 0) F dX10_draw_0 rfl rfl ?_
  refine v_aload_n (pc := 1) (i := 0) F dX10_draw_1 rfl rfl ?_
  refine v_getI (pc := 2) F fX10_81 dX10_draw_2 rfl lm0 ?_
  refine v_ldcw (pc := 5) F dX10_draw_5 kcX10_313 ?_
  refine v_imul (pc := 8) F dX10_draw_8 ?_
  refine v_sipush (pc := 9) (v := nI 12345) F dX10_draw_9 (by decide) ?_
  refine v_iadd (pc := 12) F dX10_draw_12 ?_
  refine v_put (pc := 13) F fX10_81 dX10_draw_13 rfl rfl rfl lm0 ?_
  refine v_aload_n (pc := 16) (i := 0) F dX10_draw_16 rfl rfl ?_
  refine v_getI (pc := 17) F fX10_81 dX10_draw_17 rfl lm0 ?_
  refine v_bipush (pc := 20) (v := nI 16) F dX10_draw_20 (by decide) ?_
  refine v_iushr (pc := 22) F dX10_draw_22 ?_
  refine v_iload_n (pc := 23) (i := 1) F dX10_draw_23 rfl rfl ?_
  refine v_irem (pc := 24) F dX10_draw_24 (nI_ne0 h0 (by omega)) ?_
  refine v_ireturn (pc := 25) F dX10_draw_25 (rfl) ?_
  refine ⟨?_, rfl⟩
  rw [j_pI_at, dv_y, nI_mod (Nat.lt_of_lt_of_le (dvY_lt _) (by decide)) h0 (by omega)]
  rfl

set_option maxRecDepth 100000 in
theorem c_X10_evening (set : Int32) (μ : j_M) (hM : MI μ) : Ct yX10_evening cX10_evening 2 (some .int) 6 ΛM [.ref 0, .int set] μ (pI fun r μ2 => r = (s_evening set μ).1 ∧ Fm PS (s_evening set μ).2 μ2) := by
  refine Ct.go (lo := [some (.ref 0), some (.int set)]) (by decide) (Nat.le_of_ble_eq_true rfl) rfl rfl (fun X F => ?_)
  have F : Fx X cX10_evening RX10 6 (some .int) ΛM := F
  obtain ⟨n, hW, hsh, htp, him⟩ := id hM
  have hn := hW.1
  have hn8 := hW.2.1
  have hnn := nn_eq hn hn8
  have ho := hW.own
  have hrw : RW μ.1 n μ := RW.self hn
  have hpw := j_pw hn8
  refine v_aload_n (pc := 0) (i := 0) F dX10_evening_0 rfl rfl ?_
  refine v_iload_n (pc := 1) (i := 1) F dX10_evening_1 rfl rfl ?_
  refine v_callVI (pc := 2) (As := [_]) (rest := []) (c := 10) F mX10_isSet kX10_234 im_X10_isSet se_X10_isSet dX10_evening_2 rfl rfl (by decide) (c_X10_isSet _ n _ (by first | exact hn | assumption) hn8) (by decide) rfl rfl (Nat.le_of_ble_eq_true rfl) lm0 (fun x1 μ1 hp1 => ?_)
  rw [hp1.1, hp1.2]
  refine v_if_eq (pc := 5) (tgt := 16) F dX10_evening_5 (by decide) (fun h5_2 => ?_) (fun h5_2 => ?_)
  · rw [b2i_0] at h5_2
    refine v_aload_n (pc := 16) (i := 0) F dX10_evening_16 rfl rfl ?_
    refine v_bipush (pc := 17) (v := (-2)) F dX10_evening_17 (by decide) ?_
    refine v_callVI (pc := 19) (As := [_]) (rest := []) (c := 10) F mX10_no kX10_96 im_X10_no se_X10_no dX10_evening_19 rfl rfl (by decide) (c_X10_no (-2) 2 (by decide) (by decide) _) (by decide) rfl rfl (Nat.le_of_ble_eq_true rfl) lm0 (fun x3 μ3 hp3 => ?_)
    rw [hp3.1, hp3.2]
    refine v_ireturn (pc := 22) F dX10_evening_22 (rfl) ?_
    simp only [s_evening, rj, hnn, h5_2, ↓reduceIte]
    refine ⟨?_, ?_⟩ <;> first | exact trivial | exact rfl | exact Fm.rf
  · rw [b2i_0] at h5_2
    rw [Classical.not_not] at h5_2
    refine v_aload_n (pc := 8) (i := 0) F dX10_evening_8 rfl rfl ?_
    refine v_iload_n (pc := 9) (i := 1) F dX10_evening_9 rfl rfl ?_
    refine v_callVI (pc := 10) (As := [_]) (rest := []) (c := 10) F mX10_goes kX10_307 im_X10_goes se_X10_goes dX10_evening_10 rfl rfl (by decide) (c_X10_goes _ n _ hn hn8 ho hW.2.2.1 hnn) (by decide) rfl rfl (Nat.le_of_ble_eq_true rfl) lm0 (fun x4 μ4 hp4 => ?_)
    have hq := hp4
    refine v_goto (pc := 13) (tgt := 22) F dX10_evening_13 (by decide) ?_
    refine v_ireturn (pc := 22) F dX10_evening_22 (rfl) ?_
    simp only [s_evening, hnn, h5_2, ↓reduceIte]
    exact hq
