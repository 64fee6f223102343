/-! the law's loop -/
section lawloop
variable {X : lX} {pc i : Nat} {st : List Value} {μ ν : j_M}
theorem lr_tin {dflt lo1 hi1 : Int} {offs : Array Int} {len : Nat} {x : Int32} {off : Int} {tgt : Nat} (F : LF X) (hd : decode code pc = .ok (.tableswitch dflt lo1 hi1 offs, len)) (h1 : ¬ x.toInt < lo1) (h2 : ¬ hi1 < x.toInt) (ho : offs[(x.toInt - lo1).toNat]? = some off) (ht : (pc : Int) + off = (tgt : Int)) (k : LV X tgt i st μ ν) : LV X pc i (.int x :: st) μ ν := by
  obtain ⟨p, l, e, s, m, below, meth, c, b, L, xs, Gx, Gm⟩ := X
  obtain ⟨hx, hb, hml, hown, hts, hX, hbl, hL, hKx, hKm, okx, okm, hax, ham, hxm, hret, hlocks⟩ := F
  intro H locs ls hP hM hS hl
  have hl : lv_has ls 4 [(3, .int (nI i)), (2, .ref (j_ad Gm 0)), (1, .ref (j_ad Gx 0)), (0, .ref b)] := hl
  have hbA : ¬ (fun q : Nat => s.heap.size ≤ q) b := Nat.not_le.mpr hbl
  exact lv_tableIn hx hb hd h1 h2 ho ht (k H locs ls hP hM hS hl)
theorem lr_tout {dflt lo1 hi1 : Int} {offs : Array Int} {len : Nat} {x : Int32} {tgt : Nat} (F : LF X) (hd : decode code pc = .ok (.tableswitch dflt lo1 hi1 offs, len)) (h : x.toInt < lo1 ∨ hi1 < x.toInt) (ht : (pc : Int) + dflt = (tgt : Int)) (k : LV X tgt i st μ ν) : LV X pc i (.int x :: st) μ ν := by
  obtain ⟨p, l, e, s, m, below, meth, c, b, L, xs, Gx, Gm⟩ := X
  obtain ⟨hx, hb, hml, hown, hts, hX, hbl, hL, hKx, hKm, okx, okm, hax, ham, hxm, hret, hlocks⟩ := F
  intro H locs ls hP hM hS hl
  have hl : lv_has ls 4 [(3, .int (nI i)), (2, .ref (j_ad Gm 0)), (1, .ref (j_ad Gx 0)), (0, .ref b)] := hl
  have hbA : ¬ (fun q : Nat => s.heap.size ≤ q) b := Nat.not_le.mpr hbl
  exact lv_tableOut hx hb hd h ht (k H locs ls hP hM hS hl)
theorem lr_gt {L : Nat} (h : L < i + 6) (hL : L ≤ 3072) (hi : i ≤ 3100) : nI L - 6 < nI i := by
  by_cases h6 : 6 ≤ L
  · rw [show (6 : Int32) = nI 6 from rfl, pk_sub h6, nI_ltI (by omega) (by omega)]
    omega
  · have h0 : (0 : Int32) ≤ nI i := by
      rw [show (0 : Int32) = nI 0 from rfl, nI_leI (by omega) (by omega)]
      omega
    refine Int32.lt_of_lt_of_le ?_ h0
    rcases (show L = 0 ∨ L = 1 ∨ L = 2 ∨ L = 3 ∨ L = 4 ∨ L = 5 by omega) with rfl | rfl | rfl | rfl | rfl | rfl <;> decide
/-- the loop's head: on, or the law's end -/
theorem lr_head (F : LF X) (hi : i ≤ 3100) (k : i + 6 ≤ lL X → LV X 27 i [] μ ν) : LV X 18 i [] μ ν := by
  obtain ⟨p, l, e, s, m, below, meth, c, b, L, xs, Gx, Gm⟩ := X
  obtain ⟨hx, hb, hml, hown, hts, hX, hbl, hL, hKx, hKm, okx, okm, hax, ham, hxm, hret, hlocks⟩ := F
  intro H locs ls hP hM hS hl
  have hl : lv_has ls 4 [(3, .int (nI i)), (2, .ref (j_ad Gm 0)), (1, .ref (j_ad Gx 0)), (0, .ref b)] := hl
  have hbA : ¬ (fun q : Nat => s.heap.size ≤ q) b := Nat.not_le.mpr hbl
  refine lv_iload_n hx hb dL_law_18 rfl (lv_at hl 0 rfl) ?_
  refine lv_aload_n hx hb dL_law_19 rfl (lv_at hl 3 rfl) ?_
  refine va_slen hx hb hX hbl hbA hS dL_law_20 ?_
  refine lv_bipush (v := 6) hx hb dL_law_21 (by decide) ?_
  refine lv_isub hx hb dL_law_23 ?_
  refine lv_icmp_gt (tgt := 1718) hx hb dL_law_24 (by decide) (fun h => ?_) (fun h => ?_)
  · refine lv_iconst (v := 1) hx hb dL_law_1718 (by decide) ?_
    refine va_forget (fun q hq => hS.2.2 q hq) ?_
    refine W.widen (k := 600000) (n := 7302250) (Nat.le_of_ble_eq_true rfl) (Nat.le_of_ble_eq_true rfl) ?_
    exact lw_ret hx hb hret hlocks dL_law_1719
  · have h6 : i + 6 ≤ L := by
      rcases Nat.lt_or_ge L (i + 6) with q | q
      · exact absurd (lr_gt q hL hi) h
      · exact q
    exact k h6 H locs ls hP hM hS hl
theorem lr_next (F : LF X) (k : LV X 18 (i + 6) [] μ ν) : LV X 1712 i [] μ ν := by
  obtain ⟨p, l, e, s, m, below, meth, c, b, L, xs, Gx, Gm⟩ := X
  obtain ⟨hx, hb, hml, hown, hts, hX, hbl, hL, hKx, hKm, okx, okm, hax, ham, hxm, hret, hlocks⟩ := F
  intro H locs ls hP hM hS hl
  have hl : lv_has ls 4 [(3, .int (nI i)), (2, .ref (j_ad Gm 0)), (1, .ref (j_ad Gx 0)), (0, .ref b)] := hl
  have hbA : ¬ (fun q : Nat => s.heap.size ≤ q) b := Nat.not_le.mpr hbl
  refine lv_iinc (v := nI (i + 6)) (lv' := lloc b Gx Gm (i + 6)) hx hb dL_law_1712 hl (k := 0) rfl (nI_add i 6) (by decide) rfl (fun ls hl => ?_)
  refine lv_goto (tgt := 18) hx hb dL_law_1715 (by decide) ?_
  exact k H locs ls hP hM hS hl

theorem lr_switch (F : LF X) {x : Int32} (hi : i + 6 ≤ lL X) (hM : MI ν) (hR : Rel μ ν) (kk : ∀ μ2 ν2 : j_M, MI ν2 → Rel μ2 ν2 → LV X 1712 i [] μ2 ν2) : LV X 33 i [.int x] μ ν := by
  by_cases hd : x.toInt < 0 ∨ 50 < x.toInt
  · exact lr_tout (tgt := 1712) F dL_law_33 hd (by decide) (kk μ ν hM hR)
  · obtain ⟨j, hj⟩ : ∃ j : Nat, x.toInt = (j : Int) := ⟨x.toInt.toNat, by omega⟩
    have hxj : x = Int32.ofInt (j : Int) := by rw [← hj, Int32.ofInt_toInt]
    have h50 : j ≤ 50 := by omega
    clear hd hj
    subst hxj
    match j, h50 with
    | 0, _ => exact lr_tin (tgt := 252) F dL_law_33 (by decide) (by decide) (by rfl) (by decide) (lc_0 F hi hM hR kk)
    | 1, _ => exact lr_tin (tgt := 295) F dL_law_33 (by decide) (by decide) (by rfl) (by decide) (lc_1 F hi hM hR kk)
    | 2, _ => exact lr_tin (tgt := 368) F dL_law_33 (by decide) (by decide) (by rfl) (by decide) (lc_2 F hi hM hR kk)
    | 3, _ => exact lr_tin (tgt := 431) F dL_law_33 (by decide) (by decide) (by rfl) (by decide) (lc_3 F hi hM hR kk)
    | 4, _ => exact lr_tin (tgt := 465) F dL_law_33 (by decide) (by decide) (by rfl) (by decide) (lc_4 F hi hM hR kk)
    | 5, _ => exact lr_tin (tgt := 488) F dL_law_33 (by decide) (by decide) (by rfl) (by decide) (lc_5 F hi hM hR kk)
    | 6, _ => exact lr_tin (tgt := 521) F dL_law_33 (by decide) (by decide) (by rfl) (by decide) (lc_6 F hi hM hR kk)
    | 7, _ => exact lr_tin (tgt := 554) F dL_law_33 (by decide) (by decide) (by rfl) (by decide) (lc_7 F hi hM hR kk)
    | 8, _ => exact lr_tin (tgt := 587) F dL_law_33 (by decide) (by decide) (by rfl) (by decide) (lc_8 F hi hM hR kk)
    | 9, _ => exact lr_tin (tgt := 630) F dL_law_33 (by decide) (by decide) (by rfl) (by decide) (lc_9 F hi hM hR kk)
    | 10, _ => exact lr_tin (tgt := 689) F dL_law_33 (by decide) (by decide) (by rfl) (by decide) (lc_10 F hi hM hR kk)
    | 11, _ => exact lr_tin (tgt := 732) F dL_law_33 (by decide) (by decide) (by rfl) (by decide) (lc_11 F hi hM hR kk)
    | 12, _ => exact lr_tin (tgt := 755) F dL_law_33 (by decide) (by decide) (by rfl) (by decide) (lc_12 F hi hM hR kk)
    | 13, _ => exact lr_tin (tgt := 768) F dL_law_33 (by decide) (by decide) (by rfl) (by decide) (lc_13 F hi hM hR kk)
    | 14, _ => exact lr_tin (tgt := 781) F dL_law_33 (by decide) (by decide) (by rfl) (by decide) (lc_14 F hi hM hR kk)
    | 15, _ => exact lr_tin (tgt := 804) F dL_law_33 (by decide) (by decide) (by rfl) (by decide) (lc_15 F hi hM hR kk)
    | 16, _ => exact lr_tin (tgt := 837) F dL_law_33 (by decide) (by decide) (by rfl) (by decide) (lc_16 F hi hM hR kk)
    | 17, _ => exact lr_tin (tgt := 860) F dL_law_33 (by decide) (by decide) (by rfl) (by decide) (lc_17 F hi hM hR kk)
    | 18, _ => exact lr_tin (tgt := 893) F dL_law_33 (by decide) (by decide) (by rfl) (by decide) (lc_18 F hi hM hR kk)
    | 19, _ => exact lr_tin (tgt := 926) F dL_law_33 (by decide) (by decide) (by rfl) (by decide) (lc_19 F hi hM hR kk)
    | 20, _ => exact lr_tin (tgt := 959) F dL_law_33 (by decide) (by decide) (by rfl) (by decide) (lc_20 F hi hM hR kk)
    | 21, _ => exact lr_tin (tgt := 992) F dL_law_33 (by decide) (by decide) (by rfl) (by decide) (lc_21 F hi hM hR kk)
    | 22, _ => exact lr_tin (tgt := 1025) F dL_law_33 (by decide) (by decide) (by rfl) (by decide) (lc_22 F hi hM hR kk)
    | 23, _ => exact lr_tin (tgt := 1058) F dL_law_33 (by decide) (by decide) (by rfl) (by decide) (lc_23 F hi hM hR kk)
    | 24, _ => exact lr_tin (tgt := 1091) F dL_law_33 (by decide) (by decide) (by rfl) (by decide) (lc_24 F hi hM hR kk)
    | 25, _ => exact lr_tin (tgt := 1144) F dL_law_33 (by decide) (by decide) (by rfl) (by decide) (lc_25 F hi hM hR kk)
    | 26, _ => exact lr_tin (tgt := 1167) F dL_law_33 (by decide) (by decide) (by rfl) (by decide) (lc_26 F hi hM hR kk)
    | 27, _ => exact lr_tin (tgt := 1190) F dL_law_33 (by decide) (by decide) (by rfl) (by decide) (lc_27 F hi hM hR kk)
    | 28, _ => exact lr_tin (tgt := 1213) F dL_law_33 (by decide) (by decide) (by rfl) (by decide) (lc_28 F hi hM hR kk)
    | 29, _ => exact lr_tin (tgt := 1226) F dL_law_33 (by decide) (by decide) (by rfl) (by decide) (lc_29 F hi hM hR kk)
    | 30, _ => exact lr_tin (tgt := 1259) F dL_law_33 (by decide) (by decide) (by rfl) (by decide) (lc_30 F hi hM hR kk)
    | 31, _ => exact lr_tin (tgt := 1282) F dL_law_33 (by decide) (by decide) (by rfl) (by decide) (lc_31 F hi hM hR kk)
    | 32, _ => exact lr_tin (tgt := 1305) F dL_law_33 (by decide) (by decide) (by rfl) (by decide) (lc_32 F hi hM hR kk)
    | 33, _ => exact lr_tin (tgt := 1318) F dL_law_33 (by decide) (by decide) (by rfl) (by decide) (lc_33 F hi hM hR kk)
    | 34, _ => exact lr_tin (tgt := 1341) F dL_law_33 (by decide) (by decide) (by rfl) (by decide) (lc_34 F hi hM hR kk)
    | 35, _ => exact lr_tin (tgt := 1364) F dL_law_33 (by decide) (by decide) (by rfl) (by decide) (lc_35 F hi hM hR kk)
    | 36, _ => exact lr_tin (tgt := 1387) F dL_law_33 (by decide) (by decide) (by rfl) (by decide) (lc_36 F hi hM hR kk)
    | 37, _ => exact lr_tin (tgt := 1420) F dL_law_33 (by decide) (by decide) (by rfl) (by decide) (lc_37 F hi hM hR kk)
    | 38, _ => exact lr_tin (tgt := 1433) F dL_law_33 (by decide) (by decide) (by rfl) (by decide) (lc_38 F hi hM hR kk)
    | 39, _ => exact lr_tin (tgt := 1456) F dL_law_33 (by decide) (by decide) (by rfl) (by decide) (lc_39 F hi hM hR kk)
    | 40, _ => exact lr_tin (tgt := 1489) F dL_law_33 (by decide) (by decide) (by rfl) (by decide) (lc_40 F hi hM hR kk)
    | 41, _ => exact lr_tin (tgt := 1512) F dL_law_33 (by decide) (by decide) (by rfl) (by decide) (lc_41 F hi hM hR kk)
    | 42, _ => exact lr_tin (tgt := 1535) F dL_law_33 (by decide) (by decide) (by rfl) (by decide) (lc_42 F hi hM hR kk)
    | 43, _ => exact lr_tin (tgt := 1548) F dL_law_33 (by decide) (by decide) (by rfl) (by decide) (lc_43 F hi hM hR kk)
    | 44, _ => exact lr_tin (tgt := 1581) F dL_law_33 (by decide) (by decide) (by rfl) (by decide) (lc_44 F hi hM hR kk)
    | 45, _ => exact lr_tin (tgt := 1604) F dL_law_33 (by decide) (by decide) (by rfl) (by decide) (lc_45 F hi hM hR kk)
    | 46, _ => exact lr_tin (tgt := 1617) F dL_law_33 (by decide) (by decide) (by rfl) (by decide) (lc_46 F hi hM hR kk)
    | 47, _ => exact lr_tin (tgt := 1640) F dL_law_33 (by decide) (by decide) (by rfl) (by decide) (lc_47 F hi hM hR kk)
    | 48, _ => exact lr_tin (tgt := 1663) F dL_law_33 (by decide) (by decide) (by rfl) (by decide) (lc_48 F hi hM hR kk)
    | 49, _ => exact lr_tin (tgt := 1676) F dL_law_33 (by decide) (by decide) (by rfl) (by decide) (lc_49 F hi hM hR kk)
    | 50, _ => exact lr_tin (tgt := 1689) F dL_law_33 (by decide) (by decide) (by rfl) (by decide) (lc_50 F hi hM hR kk)
    | j + 51, h => exact absurd h (by omega)

theorem lr_body (F : LF X) (hi : i + 6 ≤ lL X) (hM : MI ν) (hR : Rel μ ν) (kk : ∀ μ2 ν2 : j_M, MI ν2 → Rel μ2 ν2 → LV X 1712 i [] μ2 ν2) : LV X 27 i [] μ ν := by
  refine lr_ld0 F hi dL_law_27 dL_law_28 dL_law_29 ?_
  refine lr_bipush (v := 63) F dL_law_30 (by decide) ?_
  refine lr_iand F dL_law_32 ?_
  exact lr_switch F hi hM hR kk
theorem law_loop (F : LF X) (hL : lL X ≤ 3072) : ∀ (n i : Nat) (μ ν : j_M), lL X ≤ i + n → i ≤ 3100 → MI ν → Rel μ ν → LV X 18 i [] μ ν := by
  intro n
  induction n with
  | zero =>
    intro i μ ν h1 h2 hM hR
    exact lr_head F h2 (fun h => absurd h (by omega))
  | succ n ih =>
    intro i μ ν h1 h2 hM hR
    exact lr_head F h2 (fun h => lr_body F h hM hR (fun μ2 ν2 hM2 hR2 => lr_next F (ih (i + 6) μ2 ν2 (by omega) (by omega) hM2 hR2)))
end lawloop
