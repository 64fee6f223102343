/-! the class: lookers told and added -/
abbrev PL (x c j : Nat) : Prop := c = x ∨ c = x + 1
def likV (v so is : Int32) : Int32 := if is = 0 then v &&& (((1 : Int32) <<< (so &&& 31)) ^^^ (-1)) else v ||| ((1 : Int32) <<< (so &&& 31))

set_option maxRecDepth 100000 in
theorem c_X3_like (x : Nat) (hx : j_ob ΛX x 3) (so is v : Int32) (μ : j_M) (hv : μ.1 x 4 = v) : Ct yX3_like cX3_like 3 none 0 ΛX [.ref x, .int so, .int is] μ (pV fun μ2 => μ2 = j_pI μ x 4 (likV v so is)) := by
  refine Ct.go (lo := [some (.ref x), some (.int so), some (.int is)]) (by decide) (Nat.le_of_ble_eq_true rfl) rfl rfl (fun X F => ?_)
  have F : Fx X cX3_like RX3 0 none ΛX := F
  refine v_aload_n (pc := 0) (i := 0) F dX3_like_0 rfl rfl ?_
  refine v_iload_n (pc := 1) (i := 2) F dX3_like_1 rfl rfl ?_
  refine v_if_eq (pc := 2) (tgt := 16) F dX3_like_2 (by decide) (fun h0 => ?_) (fun h0 => ?_)
  · skip
    refine v_aload_n (pc := 16) (i := 0) F dX3_like_16 rfl rfl ?_
    refine v_getI (pc := 17) F fX3_25 dX3_like_17 rfl hx ?_
    refine v_topE (y := v) (hv) ?_
    refine v_iconst (pc := 20) (v := nI 1) F dX3_like_20 (by decide) ?_
    refine v_iload_n (pc := 21) (i := 1) F dX3_like_21 rfl rfl ?_
    refine v_ishl (pc := 22) F dX3_like_22 ?_
    refine v_iconst (pc := 23) (v := (-1)) F dX3_like_23 (by decide) ?_
    refine v_ixor (pc := 24) F dX3_like_24 ?_
    refine v_iand (pc := 25) F dX3_like_25 ?_
    refine v_put (pc := 26) F fX3_25 dX3_like_26 rfl rfl rfl hx ?_
    refine v_return (pc := 29) F dX3_like_29 ?_
    unfold likV
    rw [if_pos h0]
    rfl
  · skip
    refine v_aload_n (pc := 5) (i := 0) F dX3_like_5 rfl rfl ?_
    refine v_getI (pc := 6) F fX3_25 dX3_like_6 rfl hx ?_
    refine v_topE (y := v) (hv) ?_
    refine v_iconst (pc := 9) (v := nI 1) F dX3_like_9 (by decide) ?_
    refine v_iload_n (pc := 10) (i := 1) F dX3_like_10 rfl rfl ?_
    refine v_ishl (pc := 11) F dX3_like_11 ?_
    refine v_ior (pc := 12) F dX3_like_12 ?_
    refine v_goto (pc := 13) (tgt := 26) F dX3_like_13 (by decide) ?_
    refine v_put (pc := 26) F fX3_25 dX3_like_26 rfl rfl rfl hx ?_
    refine v_return (pc := 29) F dX3_like_29 ?_
    unfold likV
    rw [if_neg h0]
    rfl

set_option maxRecDepth 100000 in
theorem c_X3_become (x : Nat) (hx : j_ob ΛX x 3) (y : Nat) (hy : j_ob ΛX y 3) (l : Nat) (w : Nat → Nat → Int32) (μ : j_M) (hL : LK μ y w l) (hxy : x + 1 < y ∨ y + 1 < x) : Ct yX3_become cX3_become 2 none 1 ΛX [.ref x, .ref y] μ (pV fun μ2 => Fm (PL x) μ μ2 ∧ LK μ2 x w l) := by
  refine Ct.go (lo := [some (.ref x), some (.ref y)]) (by decide) (Nat.le_of_ble_eq_true rfl) rfl rfl (fun X F => ?_)
  have F : Fx X cX3_become RX3 1 none ΛX := F
  refine v_aload_n (pc := 0) (i := 0) F dX3_become_0 rfl rfl ?_
  refine v_aload_n (pc := 1) (i := 1) F dX3_become_1 rfl rfl ?_
  refine v_getI (pc := 2) F fX3_15 dX3_become_2 rfl hy ?_
  refine v_topE (y := (w 2 l)) (hL.k) ?_
  refine v_put (pc := 5) F fX3_15 dX3_become_5 rfl rfl rfl hx ?_
  refine v_aload_n (pc := 8) (i := 0) F dX3_become_8 rfl rfl ?_
  refine v_aload_n (pc := 9) (i := 1) F dX3_become_9 rfl rfl ?_
  refine v_getI (pc := 10) F fX3_19 dX3_become_10 rfl hy ?_
  refine v_topE (y := (w 3 l)) ((j_pI_off (by omega)).trans (hL.a)) ?_
  refine v_put (pc := 13) F fX3_19 dX3_become_13 rfl rfl rfl hx ?_
  refine v_aload_n (pc := 16) (i := 0) F dX3_become_16 rfl rfl ?_
  refine v_aload_n (pc := 17) (i := 1) F dX3_become_17 rfl rfl ?_
  refine v_getI (pc := 18) F fX3_22 dX3_become_18 rfl hy ?_
  refine v_topE (y := (w 4 l)) ((j_pI_off (by omega)).trans ((j_pI_off (by omega)).trans (hL.g))) ?_
  refine v_put (pc := 21) F fX3_22 dX3_become_21 rfl rfl rfl hx ?_
  refine v_aload_n (pc := 24) (i := 0) F dX3_become_24 rfl rfl ?_
  refine v_aload_n (pc := 25) (i := 1) F dX3_become_25 rfl rfl ?_
  refine v_getI (pc := 26) F fX3_25 dX3_become_26 rfl hy ?_
  refine v_topE (y := (w 5 l)) ((j_pI_off (by omega)).trans ((j_pI_off (by omega)).trans ((j_pI_off (by omega)).trans (hL.li)))) ?_
  refine v_put (pc := 29) F fX3_25 dX3_become_29 rfl rfl rfl hx ?_
  refine v_aload_n (pc := 32) (i := 0) F dX3_become_32 rfl rfl ?_
  refine v_aload_n (pc := 33) (i := 1) F dX3_become_33 rfl rfl ?_
  refine v_getI (pc := 34) F fX3_28 dX3_become_34 rfl hy ?_
  refine v_topE (y := (w 6 l)) ((j_pI_off (by omega)).trans ((j_pI_off (by omega)).trans ((j_pI_off (by omega)).trans ((j_pI_off (by omega)).trans (hL.c))))) ?_
  refine v_put (pc := 37) F fX3_28 dX3_become_37 rfl rfl rfl hx ?_
  refine v_aload_n (pc := 40) (i := 0) F dX3_become_40 rfl rfl ?_
  refine v_aload_n (pc := 41) (i := 1) F dX3_become_41 rfl rfl ?_
  refine v_getI (pc := 42) F fX3_31 dX3_become_42 rfl hy ?_
  refine v_topE (y := (w 7 l)) ((j_pI_off (by omega)).trans ((j_pI_off (by omega)).trans ((j_pI_off (by omega)).trans ((j_pI_off (by omega)).trans ((j_pI_off (by omega)).trans (hL.sh)))))) ?_
  refine v_put (pc := 45) F fX3_31 dX3_become_45 rfl rfl rfl hx ?_
  refine v_aload_n (pc := 48) (i := 1) F dX3_become_48 rfl rfl ?_
  refine v_getR (pc := 49) (o := 1) F fX3_9 dX3_become_49 rfl hy ?_
  refine v_topR (y := y + 1) rfl ?_
  refine v_iconst (pc := 52) (v := nI 0) F dX3_become_52 (by decide) ?_
  refine v_aload_n (pc := 53) (i := 0) F dX3_become_53 rfl rfl ?_
  refine v_getR (pc := 54) (o := 1) F fX3_9 dX3_become_54 rfl hx ?_
  refine v_topR (y := x + 1) rfl ?_
  refine v_iconst (pc := 57) (v := nI 0) F dX3_become_57 (by decide) ?_
  refine v_bipush (pc := 58) (v := nI 8) F dX3_become_58 (by decide) ?_
  refine v_copyI (pc := 60) F dX3_become_60 mlX3_40 (lx3_0 hy) (lx3_0 hx) rfl rfl rfl (by omega) (by omega) (by decide) (by decide) (by decide) ?_
  refine v_return (pc := 63) F dX3_become_63 ?_
  refine ⟨⟨fun c j z => ?_, rfl⟩, ?_, ?_, ?_, ?_, ?_, ?_, fun s hs => ?_⟩
  · show (if c = x + 1 then _ else _) = _
    rw [if_neg (by omega)]
    repeat rw [j_pI_off (by omega)]
  · show (if x = x + 1 then _ else _) = _
    rw [if_neg (by omega)]
    rw [j_pI_off (by omega)]
    rw [j_pI_off (by omega)]
    rw [j_pI_off (by omega)]
    rw [j_pI_off (by omega)]
    rw [j_pI_off (by omega)]
    exact j_pI_at
  · show (if x = x + 1 then _ else _) = _
    rw [if_neg (by omega)]
    rw [j_pI_off (by omega)]
    rw [j_pI_off (by omega)]
    rw [j_pI_off (by omega)]
    rw [j_pI_off (by omega)]
    exact j_pI_at
  · show (if x = x + 1 then _ else _) = _
    rw [if_neg (by omega)]
    rw [j_pI_off (by omega)]
    rw [j_pI_off (by omega)]
    rw [j_pI_off (by omega)]
    exact j_pI_at
  · show (if x = x + 1 then _ else _) = _
    rw [if_neg (by omega)]
    rw [j_pI_off (by omega)]
    rw [j_pI_off (by omega)]
    exact j_pI_at
  · show (if x = x + 1 then _ else _) = _
    rw [if_neg (by omega)]
    rw [j_pI_off (by omega)]
    exact j_pI_at
  · show (if x = x + 1 then _ else _) = _
    rw [if_neg (by omega)]
    exact j_pI_at
  · show (if x + 1 = x + 1 then va_cpy _ _ 0 0 8 s else _) = _
    rw [if_pos rfl, pk_cpy_in (by omega) (by omega), Nat.zero_add, Nat.sub_zero]
    repeat rw [j_pI_off (by omega)]
    exact hL.ha s hs

/-- the scene at b has become that at f in part -/
def BI (μ μ2 : j_M) (b : Nat) (w : Nat → Nat → Int32) (n k : Nat) : Prop := Fm (PC b) μ μ2 ∧ (∀ p, p < 12 → μ2.1 (b + 1) p = w 1 p) ∧ (∀ s, s < 8 → μ2.1 (b + 2) s = pwB w s) ∧ (∀ j, j < n → μ2.1 (b + 4) j = nI ((OA w n).getD j 0)) ∧ ∀ l, l < k → LK μ2 (b + 5 + 2 * l) w l
theorem cI_o {μ : j_M} {a b n c j : Nat} (h : c ≠ b) : (j_cI μ a b 0 0 n).1 c j = μ.1 c j := if_neg h
theorem cI_a {μ : j_M} {a b n j : Nat} (h : j < n) : (j_cI μ a b 0 0 n).1 b j = μ.1 a j := by
  show (if b = b then va_cpy (μ.1 a) (μ.1 b) 0 0 n j else _) = _
  rw [if_pos rfl, pk_cpy_in (by omega) (by omega), Nat.zero_add, Nat.sub_zero]
theorem BI_0 {μ : j_M} {b f n : Nat} {w : Nat → Nat → Int32} (hS : SQ μ f w n) (hbf : b + 21 ≤ f ∨ f + 21 ≤ b) : BI μ (j_cI (j_cI (j_cI μ (f + 1) (b + 1) 0 0 12) (f + 2) (b + 2) 0 0 8) (f + 4) (b + 4) 0 0 8) b w n 0 := by
  have hn := hS.2
  refine ⟨⟨fun c j z => ?_, rfl⟩, fun p hp => ?_, fun s hs => ?_, fun j hj => ?_, fun l hl => absurd hl (by omega)⟩
  · have z2 : ¬ (b ≤ c ∧ c < b + 21) := z
    rw [cI_o (by omega), cI_o (by omega), cI_o (by omega)]
  · rw [cI_o (by omega), cI_o (by omega), cI_a hp]; exact hS.1.srt p hp
  · rw [cI_o (by omega), cI_a hs, cI_o (by omega)]; exact hS.1.plw s hs
  · rw [cI_a (by omega), cI_o (by omega), cI_o (by omega)]; exact hS.1.ord j hj
theorem BI_s {μ m m2 : j_M} {b n k : Nat} {w : Nat → Nat → Int32} (h : BI μ m b w n k) (hk : k < n) (hn : n ≤ 8) (hF : Fm (PL (b + 5 + 2 * k)) m m2) (hL : LK m2 (b + 5 + 2 * k) w k) : BI μ m2 b w n (k + 1) := by
  obtain ⟨a1, a2, a3, a4, a5⟩ := h
  refine ⟨a1.tr (hF.mono (fun c j z => by omega)), fun p hp => (hF.1 _ _ (by omega)).trans (a2 p hp), fun s hs => (hF.1 _ _ (by omega)).trans (a3 s hs), fun j hj => (hF.1 _ _ (by omega)).trans (a4 j hj), fun l hl => ?_⟩
  by_cases e : l = k
  · subst e; exact hL
  · exact (a5 l (by omega)).of (fun c j z1 z2 => hF.1 _ _ (by omega))
theorem BI_e {μ m : j_M} {b n : Nat} {w : Nat → Nat → Int32} (h : BI μ m b w n n) (hn : n ≤ 8) : SQ (j_pI (j_pI (j_pI (j_pI m b 4 (lfB (w 1))) b 5 (nI n)) b 6 (w 0 9)) b 7 (w 0 10)) b w n ∧ Fm (PC b) μ (j_pI (j_pI (j_pI (j_pI m b 4 (lfB (w 1))) b 5 (nI n)) b 6 (w 0 9)) b 7 (w 0 10)) := by
  obtain ⟨a1, a2, a3, a4, a5⟩ := h
  have e : ∀ c j, c ≠ b → (j_pI (j_pI (j_pI (j_pI m b 4 (lfB (w 1))) b 5 (nI n)) b 6 (w 0 9)) b 7 (w 0 10)).1 c j = m.1 c j := fun c j q => by rw [j_pI_off (by omega), j_pI_off (by omega), j_pI_off (by omega), j_pI_off (by omega)]
  refine ⟨⟨⟨fun p hp => (e _ _ (by omega)).trans (a2 p hp), fun s hs => (e _ _ (by omega)).trans (a3 s hs), fun j hj => (e _ _ (by omega)).trans (a4 j hj), fun l hl => (a5 l hl).of (fun c j z1 z2 => e _ _ (by omega)), ?_, ?_, ?_, j_pI_at⟩, hn⟩, (((a1.pI (by omega)).pI (by omega)).pI (by omega)).pI (by omega)⟩
  · rw [j_pI_off (by omega), j_pI_off (by omega), j_pI_off (by omega), j_pI_at]
  · rw [j_pI_off (by omega), j_pI_off (by omega), j_pI_at]
  · rw [j_pI_off (by omega), j_pI_at]

set_option maxRecDepth 100000 in
theorem c_X4_become (b : Nat) (hb : j_ob ΛX b 4) (f : Nat) (hf : j_ob ΛX f 4) (n : Nat) (w : Nat → Nat → Int32) (μ : j_M) (hS : SQ μ f w n) (hbf : b + 21 ≤ f ∨ f + 21 ≤ b) : Ct yX4_become cX4_become 3 none 2 ΛX [.ref b, .ref f] μ (pV fun μ2 => SQ μ2 b w n ∧ Fm (PC b) μ μ2) := by
  refine Ct.go (lo := [some (.ref b), some (.ref f), none]) (by decide) (Nat.le_of_ble_eq_true rfl) rfl rfl (fun X F => ?_)
  have F : Fx X cX4_become RX4 2 none ΛX := F
  have hn8 := hS.2
  refine v_aload_n (pc := 0) (i := 1) F dX4_become_0 rfl rfl ?_
  refine v_getR (pc := 1) (o := 1) F fX4_9 dX4_become_1 rfl hf ?_
  refine v_topR (y := f + 1) rfl ?_
  refine v_iconst (pc := 4) (v := nI 0) F dX4_become_4 (by decide) ?_
  refine v_aload_n (pc := 5) (i := 0) F dX4_become_5 rfl rfl ?_
  refine v_getR (pc := 6) (o := 1) F fX4_9 dX4_become_6 rfl hb ?_
  refine v_topR (y := b + 1) rfl ?_
  refine v_iconst (pc := 9) (v := nI 0) F dX4_become_9 (by decide) ?_
  refine v_bipush (pc := 10) (v := nI 12) F dX4_become_10 (by decide) ?_
  refine v_copyI (pc := 12) F dX4_become_12 mlX4_38 (lx4_0 hf) (lx4_0 hb) rfl rfl rfl (by omega) (by omega) (by decide) (by decide) (by decide) ?_
  refine v_aload_n (pc := 15) (i := 1) F dX4_become_15 rfl rfl ?_
  refine v_getR (pc := 16) (o := 2) F fX4_15 dX4_become_16 rfl hf ?_
  refine v_topR (y := f + 2) rfl ?_
  refine v_iconst (pc := 19) (v := nI 0) F dX4_become_19 (by decide) ?_
  refine v_aload_n (pc := 20) (i := 0) F dX4_become_20 rfl rfl ?_
  refine v_getR (pc := 21) (o := 2) F fX4_15 dX4_become_21 rfl hb ?_
  refine v_topR (y := b + 2) rfl ?_
  refine v_iconst (pc := 24) (v := nI 0) F dX4_become_24 (by decide) ?_
  refine v_bipush (pc := 25) (v := nI 8) F dX4_become_25 (by decide) ?_
  refine v_copyI (pc := 27) F dX4_become_27 mlX4_38 (lx4_1 hf) (lx4_1 hb) rfl rfl rfl (by omega) (by omega) (by decide) (by decide) (by decide) ?_
  refine v_aload_n (pc := 30) (i := 1) F dX4_become_30 rfl rfl ?_
  refine v_getR (pc := 31) (o := 4) F fX4_24 dX4_become_31 rfl hf ?_
  refine v_topR (y := f + 4) rfl ?_
  refine v_iconst (pc := 34) (v := nI 0) F dX4_become_34 (by decide) ?_
  refine v_aload_n (pc := 35) (i := 0) F dX4_become_35 rfl rfl ?_
  refine v_getR (pc := 36) (o := 4) F fX4_24 dX4_become_36 rfl hb ?_
  refine v_topR (y := b + 4) rfl ?_
  refine v_iconst (pc := 39) (v := nI 0) F dX4_become_39 (by decide) ?_
  refine v_bipush (pc := 40) (v := nI 8) F dX4_become_40 (by decide) ?_
  refine v_copyI (pc := 42) F dX4_become_42 mlX4_38 (lx4_3 hf) (lx4_3 hb) rfl rfl rfl (by omega) (by omega) (by decide) (by decide) (by decide) ?_
  refine v_iconst (pc := 45) (v := nI 0) F dX4_become_45 (by decide) ?_
  refine v_istore_n (pc := 46) (lo' := [some (.ref _), some (.ref _), some (.int _)]) F dX4_become_46 rfl rfl (Nat.le_of_ble_eq_true rfl) rfl ?_
  refine j_up n (fun k => ∀ μ' : j_M, (BI μ μ' b w n k) → V X _ 47 [some (.ref b), some (.ref f), some (.int (nI k))] [] μ') (fun k hk ih μ' hI => ?_) 0 (Nat.zero_le _) (j_cI (j_cI (j_cI μ (f + 1) (b + 1) 0 0 12) (f + 2) (b + 2) 0 0 8) (f + 4) (b + 4) 0 0 8) (BI_0 hS hbf)
  refine v_iload_n (pc := 47) (i := 2) F dX4_become_47 rfl rfl ?_
  have hS2 : SQ μ' f w n := SQ_F hS hI.1 (fun c j z => by omega)
  refine v_aload_n (pc := 48) (i := 1) F dX4_become_48 rfl rfl ?_
  refine v_getI (pc := 49) F fX4_44 dX4_become_49 rfl hf ?_
  refine v_topE (y := nI n) (hS2.1.cnt) ?_
  refine v_icmp_ge (pc := 52) (tgt := 76) F dX4_become_52 (by decide) (fun h52_1 => ?_) (fun h52_1 => ?_)
  · rw [nI_leI (by omega) (by omega)] at h52_1
    have en : k = n := by omega
    rw [en] at hI
    refine v_aload_n (pc := 76) (i := 0) F dX4_become_76 rfl rfl ?_
    refine v_aload_n (pc := 77) (i := 1) F dX4_become_77 rfl rfl ?_
    refine v_getI (pc := 78) F fX4_51 dX4_become_78 rfl hf ?_
    refine v_topE (y := (lfB (w 1))) (hS2.1.fil) ?_
    refine v_put (pc := 81) F fX4_51 dX4_become_81 rfl rfl rfl hb ?_
    refine v_aload_n (pc := 84) (i := 0) F dX4_become_84 rfl rfl ?_
    refine v_aload_n (pc := 85) (i := 1) F dX4_become_85 rfl rfl ?_
    refine v_getI (pc := 86) F fX4_44 dX4_become_86 rfl hf ?_
    refine v_topE (y := nI n) ((j_pI_off (by omega)).trans (hS2.1.cnt)) ?_
    refine v_put (pc := 89) F fX4_44 dX4_become_89 rfl rfl rfl hb ?_
    refine v_aload_n (pc := 92) (i := 0) F dX4_become_92 rfl rfl ?_
    refine v_aload_n (pc := 93) (i := 1) F dX4_become_93 rfl rfl ?_
    refine v_getI (pc := 94) F fX4_54 dX4_become_94 rfl hf ?_
    refine v_topE (y := (w 0 9)) ((j_pI_off (by omega)).trans ((j_pI_off (by omega)).trans (hS2.1.evs))) ?_
    refine v_put (pc := 97) F fX4_54 dX4_become_97 rfl rfl rfl hb ?_
    refine v_aload_n (pc := 100) (i := 0) F dX4_become_100 rfl rfl ?_
    refine v_aload_n (pc := 101) (i := 1) F dX4_become_101 rfl rfl ?_
    refine v_getI (pc := 102) F fX4_27 dX4_become_102 rfl hf ?_
    refine v_topE (y := (w 0 10)) ((j_pI_off (by omega)).trans ((j_pI_off (by omega)).trans ((j_pI_off (by omega)).trans (hS2.1.sed)))) ?_
    refine v_put (pc := 105) F fX4_27 dX4_become_105 rfl rfl rfl hb ?_
    refine v_return (pc := 108) F dX4_become_108 ?_
    exact BI_e hI hn8
  · rw [nI_leI (by omega) (by omega)] at h52_1
    refine v_aload_n (pc := 55) (i := 0) F dX4_become_55 rfl rfl ?_
    refine v_getR (pc := 56) (o := 3) F fX4_20 dX4_become_56 rfl hb ?_
    refine v_topR (y := b + 3) rfl ?_
    refine v_iload_n (pc := 59) (i := 2) F dX4_become_59 rfl rfl ?_
    refine v_aald14N (pc := 60) (k0 := k) (x := b + 5 + 2 * k) F dX4_become_60 (lx4_2 hb) (rfl) (by omega) (by decide) (by simp only [j_ro]; first | rfl | omega | (split <;> omega)) ?_
    have ho2 : j_ob ΛX (b + 5 + 2 * k) 3 := by
      have q := lxL (lx4_2 hb) (j := k) (by omega)
      simp only [j_ro] at q
      exact (by first | exact q | (rw [show b + 5 + 2 * k = _ from (by first | rfl | omega)]; exact q))
    refine v_aload_n (pc := 61) (i := 1) F dX4_become_61 rfl rfl ?_
    refine v_getR (pc := 62) (o := 3) F fX4_20 dX4_become_62 rfl hf ?_
    refine v_topR (y := f + 3) rfl ?_
    refine v_iload_n (pc := 65) (i := 2) F dX4_become_65 rfl rfl ?_
    refine v_aald14N (pc := 66) (k0 := k) (x := f + 5 + 2 * k) F dX4_become_66 (lx4_2 hf) (rfl) (by omega) (by decide) (by simp only [j_ro]; first | rfl | omega | (split <;> omega)) ?_
    have ho3 : j_ob ΛX (f + 5 + 2 * k) 3 := by
      have q := lxL (lx4_2 hf) (j := k) (by omega)
      simp only [j_ro] at q
      exact (by first | exact q | (rw [show f + 5 + 2 * k = _ from (by first | rfl | omega)]; exact q))
    refine v_callVV (pc := 67) (As := [_]) (rest := []) (c := 3) F mX3_become kX4_47 im_X3_become se_X3_become dX4_become_67 rfl rfl (by decide) (c_X3_become _ ho2 _ ho3 k w _ (hS2.1.lk k (by omega)) (by omega)) (by decide) rfl rfl (Nat.le_of_ble_eq_true rfl) ho2 (fun μ4 hp4 => ?_)
    skip
    refine v_iinc (pc := 70) (i := 2) (v := nI (k + 1)) (lo' := [some (.ref _), some (.ref _), some (.int _)]) F dX4_become_70 rfl (j_inc _) rfl rfl ?_
    refine v_goto (pc := 73) (tgt := 47) F dX4_become_73 (by decide) ?_
    exact ih (by omega) _ (BI_s hI (by omega) hn8 hp4.1 hp4.2)

/-- a looker more -/
def nlW (w : Nat → Nat → Int32) (n : Nat) (k a g : Int32) : Nat → Nat → Int32 := fun c j => if c = 0 ∧ j = 1 then nI (n + 1) else if c = 8 ∧ 8 * n ≤ j ∧ j < 8 * n + 8 then 0 else if c = 7 ∧ j = n then -1 else if c = 6 ∧ j = n then nI 6 else if c = 5 ∧ j = n then nI 0 else if c = 4 ∧ j = n then g else if c = 3 ∧ j = n then a else if c = 2 ∧ j = n then k else w c j
theorem nl_W {ν : j_M} {n : Nat} {k a g : Int32} : (m_nl ν n k a g).1 = nlW ν.1 n k a g := rfl
theorem nlW_o {w : Nat → Nat → Int32} {n : Nat} {k a g : Int32} {c j : Nat} (h : ¬ (c = 0 ∧ j = 1)) (h8 : ¬ (c = 8 ∧ 8 * n ≤ j ∧ j < 8 * n + 8)) (h2 : ¬ (2 ≤ c ∧ c ≤ 7 ∧ j = n)) : nlW w n k a g c j = w c j := by
  unfold nlW
  rw [if_neg h, if_neg h8, if_neg (by omega), if_neg (by omega), if_neg (by omega), if_neg (by omega), if_neg (by omega), if_neg (by omega)]
theorem nlW_g {w : Nat → Nat → Int32} {n : Nat} {k a g : Int32} : nlW w n k a g 2 n = k ∧ nlW w n k a g 3 n = a ∧ nlW w n k a g 4 n = g ∧ nlW w n k a g 5 n = nI 0 ∧ nlW w n k a g 6 n = nI 6 ∧ nlW w n k a g 7 n = -1 := by
  refine ⟨?_, ?_, ?_, ?_, ?_, ?_⟩ <;> simp [nlW]
theorem nlW_8 {w : Nat → Nat → Int32} {n s : Nat} {k a g : Int32} (hs : s < 8) : nlW w n k a g 8 (8 * n + s) = 0 := by
  unfold nlW
  rw [if_neg (by omega), if_pos (by omega)]

set_option maxRecDepth 100000 in
theorem c_X3_begin (x : Nat) (hx : j_ob ΛX x 3) (k a g : Int32) (μ : j_M) : Ct yX3_begin cX3_begin 4 none 1 ΛX [.ref x, .int k, .int a, .int g] μ (pV fun μ2 => Fm (PL x) μ μ2 ∧ μ2.1 x 1 = k ∧ μ2.1 x 2 = a ∧ μ2.1 x 3 = g ∧ μ2.1 x 4 = nI 0 ∧ μ2.1 x 5 = nI 6 ∧ μ2.1 x 6 = -1 ∧ ∀ s, s < 8 → μ2.1 (x + 1) s = 0) := by
  refine Ct.go (lo := [some (.ref x), some (.int k), some (.int a), some (.int g)]) (by decide) (Nat.le_of_ble_eq_true rfl) rfl rfl (fun X F => ?_)
  have F : Fx X cX3_begin RX3 1 none ΛX := F
  refine v_aload_n (pc := 0) (i := 0) F dX3_begin_0 rfl rfl ?_
  refine v_iload_n (pc := 1) (i := 1) F dX3_begin_1 rfl rfl ?_
  refine v_put (pc := 2) F fX3_15 dX3_begin_2 rfl rfl rfl hx ?_
  refine v_aload_n (pc := 5) (i := 0) F dX3_begin_5 rfl rfl ?_
  refine v_iload_n (pc := 6) (i := 2) F dX3_begin_6 rfl rfl ?_
  refine v_put (pc := 7) F fX3_19 dX3_begin_7 rfl rfl rfl hx ?_
  refine v_aload_n (pc := 10) (i := 0) F dX3_begin_10 rfl rfl ?_
  refine v_iload_n (pc := 11) (i := 3) F dX3_begin_11 rfl rfl ?_
  refine v_put (pc := 12) F fX3_22 dX3_begin_12 rfl rfl rfl hx ?_
  refine v_aload_n (pc := 15) (i := 0) F dX3_begin_15 rfl rfl ?_
  refine v_iconst (pc := 16) (v := nI 0) F dX3_begin_16 (by decide) ?_
  refine v_put (pc := 17) F fX3_25 dX3_begin_17 rfl rfl rfl hx ?_
  refine v_aload_n (pc := 20) (i := 0) F dX3_begin_20 rfl rfl ?_
  refine v_bipush (pc := 21) (v := nI 6) F dX3_begin_21 (by decide) ?_
  refine v_put (pc := 23) F fX3_28 dX3_begin_23 rfl rfl rfl hx ?_
  refine v_aload_n (pc := 26) (i := 0) F dX3_begin_26 rfl rfl ?_
  refine v_iconst (pc := 27) (v := (-1)) F dX3_begin_27 (by decide) ?_
  refine v_put (pc := 28) F fX3_31 dX3_begin_28 rfl rfl rfl hx ?_
  refine v_aload_n (pc := 31) (i := 0) F dX3_begin_31 rfl rfl ?_
  refine v_getR (pc := 32) (o := 1) F fX3_9 dX3_begin_32 rfl hx ?_
  refine v_topR (y := x + 1) rfl ?_
  refine v_iconst (pc := 35) (v := nI 0) F dX3_begin_35 (by decide) ?_
  refine v_callSV (pc := 36) (As := [_, _]) (rest := []) F mJ7_fill_53178 kX3_34 sm_J7_fill_53178 dX3_begin_36 (c_J7_fillI _ _ 8 (lx3_0 hx) (by decide) _ _) (by decide) rfl rfl (Nat.le_of_ble_eq_true rfl) (fun μ1 hp1 => ?_)
  rw [hp1]
  refine v_return (pc := 39) F dX3_begin_39 ?_
  have e : ∀ j, (flI (j_pI (j_pI (j_pI (j_pI (j_pI (j_pI μ x 1 k) x 2 a) x 3 g) x 4 (nI 0)) x 5 (nI 6)) x 6 (-1)) (x + 1) 8 (nI 0)).1 x j = (j_pI (j_pI (j_pI (j_pI (j_pI (j_pI μ x 1 k) x 2 a) x 3 g) x 4 (nI 0)) x 5 (nI 6)) x 6 (-1)).1 x j := fun j => if_neg (by omega)
  refine ⟨⟨fun c j z => ?_, rfl⟩, ?_, ?_, ?_, ?_, ?_, ?_, fun s hs => if_pos ⟨rfl, hs⟩⟩
  · show (if c = x + 1 ∧ j < 8 then _ else _) = _
    rw [if_neg (by omega)]
    repeat rw [j_pI_off (by omega)]
  · rw [e]
    rw [j_pI_off (by omega)]
    rw [j_pI_off (by omega)]
    rw [j_pI_off (by omega)]
    rw [j_pI_off (by omega)]
    rw [j_pI_off (by omega)]
    exact j_pI_at
  · rw [e]
    rw [j_pI_off (by omega)]
    rw [j_pI_off (by omega)]
    rw [j_pI_off (by omega)]
    rw [j_pI_off (by omega)]
    exact j_pI_at
  · rw [e]
    rw [j_pI_off (by omega)]
    rw [j_pI_off (by omega)]
    rw [j_pI_off (by omega)]
    exact j_pI_at
  · rw [e]
    rw [j_pI_off (by omega)]
    rw [j_pI_off (by omega)]
    exact j_pI_at
  · rw [e]
    rw [j_pI_off (by omega)]
    exact j_pI_at
  · rw [e]
    exact j_pI_at

theorem SC_add {μ m m2 : j_M} {b n : Nat} {w : Nat → Nat → Int32} {k a g : Int32} (hS : SC μ b w n) (hn : n < 8) (hF : Fm (PL (b + 5 + 2 * n)) μ m) (h1 : m.1 (b + 5 + 2 * n) 1 = k) (h2 : m.1 (b + 5 + 2 * n) 2 = a) (h3 : m.1 (b + 5 + 2 * n) 3 = g) (h4 : m.1 (b + 5 + 2 * n) 4 = nI 0) (h5 : m.1 (b + 5 + 2 * n) 5 = nI 6) (h6 : m.1 (b + 5 + 2 * n) 6 = -1) (h7 : ∀ s, s < 8 → m.1 (b + 5 + 2 * n + 1) s = 0)
    (hG : Fm (fun c _ => c = b + 4) (j_pI m b 5 (nI (n + 1))) m2) (ho : ∀ j, j < n + 1 → m2.1 (b + 4) j = nI ((ordO (nlW w n k a g 4) (fun _ => true) (n + 1)).getD j 0)) : SQ m2 b (nlW w n k a g) (n + 1) ∧ Fm (PC b) μ m2 := by
  have e : ∀ c j, c ≠ b + 4 → ¬ (c = b ∧ j = 5) → m2.1 c j = m.1 c j := fun c j q q2 => (hG.1 c j q).trans (j_pI_off (by omega))
  have e2 : ∀ c j, c ≠ b + 4 → ¬ (c = b ∧ j = 5) → ¬ (c = b + 5 + 2 * n ∨ c = b + 5 + 2 * n + 1) → m2.1 c j = μ.1 c j := fun c j q q2 q3 => (e c j q q2).trans (hF.1 c j q3)
  obtain ⟨g2, g3, g4, g5, g6, g7⟩ := nlW_g (w := w) (n := n) (k := k) (a := a) (g := g)
  refine ⟨⟨⟨fun p hp => (e2 _ _ (by omega) (by omega) (by omega)).trans ((hS.srt p hp).trans (nlW_o (by omega) (by omega) (by omega)).symm), fun s hs => (e2 _ _ (by omega) (by omega) (by omega)).trans ((hS.plw s hs).trans (pwB_congr (fun p _ => nlW_o (by omega) (by omega) (by omega)) s).symm), ho, fun l hl => ?_, (e2 _ _ (by omega) (by omega) (by omega)).trans (hS.fil.trans (lfB_congr (fun p _ => nlW_o (by omega) (by omega) (by omega))).symm), ?_, (e2 _ _ (by omega) (by omega) (by omega)).trans (hS.evs.trans (nlW_o (by omega) (by omega) (by omega)).symm), (e2 _ _ (by omega) (by omega) (by omega)).trans (hS.sed.trans (nlW_o (by omega) (by omega) (by omega)).symm)⟩, by omega⟩, ⟨fun c j z => ?_, ?_⟩⟩
  · by_cases el : l = n
    · subst el
      exact ⟨(e _ _ (by omega) (by omega)).trans (h1.trans g2.symm), (e _ _ (by omega) (by omega)).trans (h2.trans g3.symm), (e _ _ (by omega) (by omega)).trans (h3.trans g4.symm), (e _ _ (by omega) (by omega)).trans (h4.trans g5.symm), (e _ _ (by omega) (by omega)).trans (h5.trans g6.symm), (e _ _ (by omega) (by omega)).trans (h6.trans g7.symm), fun s hs => (e _ _ (by omega) (by omega)).trans ((h7 s hs).trans (nlW_8 hs).symm)⟩
    · exact ((hS.lk l (by omega)).of (m := m2) (fun c j z1 z2 => e2 _ _ (by omega) (by omega) (by omega))).w (fun c z1 z2 => nlW_o (by omega) (by omega) (by omega)) (fun s hs => nlW_o (by omega) (by omega) (by omega))
  · exact (hG.1 _ _ (by omega)).trans j_pI_at
  · have z2 : ¬ (b ≤ c ∧ c < b + 21) := z
    exact e2 _ _ (by omega) (by omega) (by omega)
  · exact hG.2.trans hF.2
theorem SC_age {μ m2 : j_M} {b n l : Nat} {w : Nat → Nat → Int32} {v : Int32} (hS : SC μ b w n) (hn : n ≤ 8) (hl : l < n) (hG : Fm (fun c _ => c = b + 4) (j_pI μ (b + 5 + 2 * l) 3 v) m2) (ho : ∀ j, j < n → m2.1 (b + 4) j = nI ((ordO ((fun c i => if c = 4 ∧ i = l then v else w c i) 4) (fun _ => true) n).getD j 0)) : SQ m2 b (fun c i => if c = 4 ∧ i = l then v else w c i) n ∧ Fm (PC b) μ m2 := by
  have f : ∀ c i, ¬ (c = 4 ∧ i = l) → (fun c i => if c = 4 ∧ i = l then v else w c i) c i = w c i := fun c i q => if_neg q
  have ft : (fun c i => if c = 4 ∧ i = l then v else w c i) 4 l = v := if_pos ⟨rfl, rfl⟩
  generalize (fun c i => if c = 4 ∧ i = l then v else w c i) = w' at f ft ho ⊢
  have e : ∀ c j, c ≠ b + 4 → ¬ (c = b + 5 + 2 * l ∧ j = 3) → m2.1 c j = μ.1 c j := fun c j q q2 => (hG.1 c j q).trans (j_pI_off q2)
  refine ⟨⟨⟨fun p hp => (e _ _ (by omega) (by omega)).trans ((hS.srt p hp).trans (f _ _ (by omega)).symm), fun s hs => (e _ _ (by omega) (by omega)).trans ((hS.plw s hs).trans (pwB_congr (fun p _ => f _ _ (by omega)) s).symm), ho, fun i hi => ?_, (e _ _ (by omega) (by omega)).trans (hS.fil.trans (lfB_congr (fun p _ => f _ _ (by omega))).symm), (e _ _ (by omega) (by omega)).trans hS.cnt, (e _ _ (by omega) (by omega)).trans (hS.evs.trans (f _ _ (by omega)).symm), (e _ _ (by omega) (by omega)).trans (hS.sed.trans (f _ _ (by omega)).symm)⟩, hn⟩, ⟨fun c j z => ?_, hG.2⟩⟩
  · by_cases el : i = l
    · subst el
      obtain ⟨a1, a2, a3, a4, a5, a6, a7⟩ := hS.lk i hi
      exact ⟨(e _ _ (by omega) (by omega)).trans (a1.trans (f _ _ (by omega)).symm), (e _ _ (by omega) (by omega)).trans (a2.trans (f _ _ (by omega)).symm), ((hG.1 _ _ (by omega)).trans j_pI_at).trans ft.symm, (e _ _ (by omega) (by omega)).trans (a4.trans (f _ _ (by omega)).symm), (e _ _ (by omega) (by omega)).trans (a5.trans (f _ _ (by omega)).symm), (e _ _ (by omega) (by omega)).trans (a6.trans (f _ _ (by omega)).symm), fun s hs => (e _ _ (by omega) (by omega)).trans ((a7 s hs).trans (f _ _ (by omega)).symm)⟩
    · exact ((hS.lk i hi).of (m := m2) (fun c j z1 z2 => e _ _ (by omega) (by omega))).w (fun c z1 z2 => f _ _ (by omega)) (fun s hs => f _ _ (by omega))
  · have z2 : ¬ (b ≤ c ∧ c < b + 21) := z
    exact e _ _ (by omega) (by omega)

set_option maxRecDepth 100000 in
theorem c_X4_putAge (b : Nat) (hb : j_ob ΛX b 4) (n : Nat) (w : Nat → Nat → Int32) (μ : j_M) (hS : SQ μ b w n) (l : Nat) (hl : l < n) (v : Int32) : Ct yX4_putAge cX4_putAge 3 none 1 ΛX [.ref b, .int (nI l), .int v] μ (pV fun μ2 => SQ μ2 b (fun c i => if c = 4 ∧ i = l then v else w c i) n ∧ Fm (PC b) μ μ2) := by
  refine Ct.go (lo := [some (.ref b), some (.int (nI l)), some (.int v)]) (by decide) (Nat.le_of_ble_eq_true rfl) rfl rfl (fun X F => ?_)
  have F : Fx X cX4_putAge RX4 1 none ΛX := F
  have hn8 := hS.2
  refine v_aload_n (pc := 0) (i := 0) F dX4_putAge_0 rfl rfl ?_
  refine v_getR (pc := 1) (o := 3) F fX4_20 dX4_putAge_1 rfl hb ?_
  refine v_topR (y := b + 3) rfl ?_
  refine v_iload_n (pc := 4) (i := 1) F dX4_putAge_4 rfl rfl ?_
  refine v_aald14N (pc := 5) (k0 := l) (x := b + 5 + 2 * l) F dX4_putAge_5 (lx4_2 hb) (rfl) (by omega) (by decide) (by simp only [j_ro]; first | rfl | omega | (split <;> omega)) ?_
  have ho1 : j_ob ΛX (b + 5 + 2 * l) 3 := by
    have q := lxL (lx4_2 hb) (j := l) (by omega)
    simp only [j_ro] at q
    exact (by first | exact q | (rw [show b + 5 + 2 * l = _ from (by first | rfl | omega)]; exact q))
  refine v_iload_n (pc := 6) (i := 2) F dX4_putAge_6 rfl rfl ?_
  refine v_put (pc := 7) F fX4_68 dX4_putAge_7 rfl rfl rfl ho1 ?_
  refine v_aload_n (pc := 10) (i := 0) F dX4_putAge_10 rfl rfl ?_
  have hag : ∀ i, i < n → (j_pI μ (b + 5 + 2 * l) 3 v).1 (b + 5 + 2 * i) 3 = (fun c i => if c = 4 ∧ i = l then v else w c i) 4 i := fun i hi => by
    by_cases e : i = l
    · subst e; rw [j_pI_at]; exact (if_pos ⟨rfl, rfl⟩).symm
    · rw [j_pI_off (by omega), (hS.1.lk i hi).g]; exact (if_neg (fun z => e z.2)).symm
  refine v_callVV (pc := 11) (As := []) (rest := []) (c := 4) F mX4_orderByAge kX4_65 im_X4_orderByAge se_X4_orderByAge dX4_putAge_11 rfl rfl (by decide) (c_X4_orderByAge b hb n ((fun c i => if c = 4 ∧ i = l then v else w c i) 4) _ ((j_pI_off (by omega)).trans hS.1.cnt) hn8 hag) (by decide) rfl rfl (Nat.le_of_ble_eq_true rfl) hb (fun μ2 hp2 => ?_)
  skip
  refine v_return (pc := 14) F dX4_putAge_14 ?_
  exact SC_age hS.1 hn8 hl hp2.1 hp2.2

set_option maxRecDepth 100000 in
theorem c_X4_add (b : Nat) (hb : j_ob ΛX b 4) (n : Nat) (w : Nat → Nat → Int32) (μ : j_M) (hS : SQ μ b w n) (hn : n < 8) (k a g : Int32) : Ct yX4_add cX4_add 5 (some .int) 2 ΛX [.ref b, .int k, .int a, .int g] μ (pI fun r μ2 => r = nI n ∧ SQ μ2 b (nlW w n k a g) (n + 1) ∧ Fm (PC b) μ μ2) := by
  refine Ct.go (lo := [some (.ref b), some (.int k), some (.int a), some (.int g), none]) (by decide) (Nat.le_of_ble_eq_true rfl) rfl rfl (fun X F => ?_)
  have F : Fx X cX4_add RX4 2 (some .int) ΛX := F
  refine v_aload_n (pc := 0) (i := 0) F dX4_add_0 rfl rfl ?_
  refine v_getI (pc := 1) F fX4_44 dX4_add_1 rfl hb ?_
  refine v_topE (y := nI n) (hS.1.cnt) ?_
  refine v_istore (pc := 4) (lo' := [some (.ref _), some (.int _), some (.int _), some (.int _), some (.int _)]) F dX4_add_4 rfl (Nat.le_of_ble_eq_true rfl) rfl ?_
  refine v_aload_n (pc := 6) (i := 0) F dX4_add_6 rfl rfl ?_
  refine v_getR (pc := 7) (o := 3) F fX4_20 dX4_add_7 rfl hb ?_
  refine v_topR (y := b + 3) rfl ?_
  refine v_iload (pc := 10) (i := 4) F dX4_add_10 rfl ?_
  refine v_aald14N (pc := 12) (k0 := n) (x := b + 5 + 2 * n) F dX4_add_12 (lx4_2 hb) (rfl) (by omega) (by decide) (by simp only [j_ro]; first | rfl | omega | (split <;> omega)) ?_
  have ho1 : j_ob ΛX (b + 5 + 2 * n) 3 := by
    have q := lxL (lx4_2 hb) (j := n) (by omega)
    simp only [j_ro] at q
    exact (by first | exact q | (rw [show b + 5 + 2 * n = _ from (by first | rfl | omega)]; exact q))
  refine v_iload_n (pc := 13) (i := 1) F dX4_add_13 rfl rfl ?_
  refine v_iload_n (pc := 14) (i := 2) F dX4_add_14 rfl rfl ?_
  refine v_iload_n (pc := 15) (i := 3) F dX4_add_15 rfl rfl ?_
  refine v_callVV (pc := 16) (As := [_, _, _]) (rest := []) (c := 3) F mX3_begin kX4_61 im_X3_begin se_X3_begin dX4_add_16 rfl rfl (by decide) (c_X3_begin _ ho1 k a g _) (by decide) rfl rfl (Nat.le_of_ble_eq_true rfl) ho1 (fun μ2 hp2 => ?_)
  obtain ⟨bF, b1, b2, b3, b4, b5, b6, b7⟩ := hp2
  refine v_aload_n (pc := 19) (i := 0) F dX4_add_19 rfl rfl ?_
  refine v_dup (pc := 20) F dX4_add_20 rfl ?_
  refine v_getI (pc := 21) F fX4_44 dX4_add_21 rfl hb ?_
  refine v_topE (y := nI n) ((bF.1 _ _ (by omega)).trans hS.1.cnt) ?_
  refine v_iconst (pc := 24) (v := nI 1) F dX4_add_24 (by decide) ?_
  refine v_iadd (pc := 25) F dX4_add_25 ?_
  refine v_topE (nI_add _ _) ?_
  refine v_put (pc := 26) F fX4_44 dX4_add_26 rfl rfl rfl hb ?_
  refine v_aload_n (pc := 29) (i := 0) F dX4_add_29 rfl rfl ?_
  have hag : ∀ i, i < n + 1 → (j_pI μ2 b 5 (nI (n + 1))).1 (b + 5 + 2 * i) 3 = nlW w n k a g 4 i := fun i hi => by
    rw [j_pI_off (by omega)]
    by_cases e : i = n
    · subst e; rw [b3]; exact nlW_g.2.2.1.symm
    · rw [bF.1 _ _ (by omega), (hS.1.lk i (by omega)).g]; exact (nlW_o (by omega) (by omega) (by omega)).symm
  refine v_callVV (pc := 30) (As := []) (rest := []) (c := 4) F mX4_orderByAge kX4_65 im_X4_orderByAge se_X4_orderByAge dX4_add_30 rfl rfl (by decide) (c_X4_orderByAge b hb (n + 1) (nlW w n k a g 4) _ j_pI_at (by omega) hag) (by decide) rfl rfl (Nat.le_of_ble_eq_true rfl) hb (fun μ3 hp3 => ?_)
  skip
  refine v_iload (pc := 33) (i := 4) F dX4_add_33 rfl ?_
  refine v_ireturn (pc := 35) F dX4_add_35 (rfl) ?_
  exact ⟨rfl, SC_add hS.1 hn bF b1 b2 b3 b4 b5 b6 b7 hp3.1 hp3.2⟩
