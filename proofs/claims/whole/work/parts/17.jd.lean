/-! the JDK's own small methods -/
def ju (x : Int32) (s : Nat) : Int32 := (x.toUInt32 >>> ((nI s).toUInt32 &&& Int32.toUInt32 31)).toInt32
def jz4 (n x : Int32) : Int32 := n - ju x 1
def jz3 (n x : Int32) : Int32 := if x < nI 4 then jz4 n x else jz4 (n + Int32.ofInt (-2)) (ju x 2)
def jz2 (n x : Int32) : Int32 := if x < nI 16 then jz3 n x else jz3 (n + Int32.ofInt (-4)) (ju x 4)
def jz1 (n x : Int32) : Int32 := if x < nI 256 then jz2 n x else jz2 (n + Int32.ofInt (-8)) (ju x 8)
def jnlz (x : Int32) : Int32 := if 0 < x then (if x < 65536 then jz1 (nI 31) x else jz1 (nI 31 + Int32.ofInt (-16)) (ju x 16)) else if x = 0 then nI 32 else nI 0
def jt4 (n x : Int32) : Int32 := n + ju x 1
def jt3 (n x : Int32) : Int32 := if x ≤ nI 4 then jt4 n x else jt4 (n + Int32.ofInt 2) (ju x 2)
def jt2 (n x : Int32) : Int32 := if x ≤ nI 16 then jt3 n x else jt3 (n + Int32.ofInt 4) (ju x 4)
def jt1 (n x : Int32) : Int32 := if x ≤ nI 256 then jt2 n x else jt2 (n + Int32.ofInt 8) (ju x 8)
def jt0 (x : Int32) : Int32 := if 0 < x then (if x ≤ 65536 then jt1 (nI 1) x else jt1 (nI 1 + Int32.ofInt 16) (ju x 16)) else x &&& nI 32
def jntz (x : Int32) : Int32 := jt0 ((x ^^^ (-1)) &&& (x - nI 1))
def jlob (x : Int32) : Int32 := x &&& (-x)
def jhob (x : Int32) : Int32 := x &&& ((-2147483648 : Int32).toUInt32 >>> ((jnlz x).toUInt32 &&& Int32.toUInt32 31)).toInt32
def jb1 (x : Int32) : Int32 := x - (ju x 1 &&& 1431655765)
def jb2 (x : Int32) : Int32 := (x &&& 858993459) + (ju x 2 &&& 858993459)
def jb3 (x : Int32) : Int32 := (x + ju x 4) &&& 252645135
def jb4 (x : Int32) : Int32 := x + ju x 8
def jb5 (x : Int32) : Int32 := x + ju x 16
def jbc (x : Int32) : Int32 := jb5 (jb4 (jb3 (jb2 (jb1 x)))) &&& nI 63
def jmax (a b : Int32) : Int32 := if a < b then b else a
def jmin (a b : Int32) : Int32 := if b < a then b else a
def flI (μ : j_M) (a n : Nat) (v : Int32) : j_M := (fun c j => if c = a ∧ j < n then v else μ.1 c j, μ.2)
def flJ (μ : j_M) (a n : Nat) (v : Int64) : j_M := (μ.1, fun c j => if c = a ∧ j < n then v else μ.2 c j)
theorem flI_0 (μ : j_M) (a : Nat) (v : Int32) : μ = flI μ a 0 v := by
  unfold flI
  refine Prod.ext ?_ rfl
  funext c j
  exact (if_neg (by omega)).symm
theorem flI_s (μ : j_M) (a n : Nat) (v : Int32) : j_pI (flI μ a n v) a n v = flI μ a (n + 1) v := by
  unfold flI j_pI
  refine Prod.ext ?_ rfl
  funext c j
  show (if c = a ∧ j = n then v else if c = a ∧ j < n then v else μ.1 c j) = (if c = a ∧ j < n + 1 then v else μ.1 c j)
  by_cases h : c = a ∧ j = n
  · rw [if_pos h, if_pos (by omega)]
  · rw [if_neg h]
    by_cases h2 : c = a ∧ j < n
    · rw [if_pos h2, if_pos (by omega)]
    · rw [if_neg h2, if_neg (by omega)]
theorem flJ_0 (μ : j_M) (a : Nat) (v : Int64) : μ = flJ μ a 0 v := by
  unfold flJ
  refine Prod.ext rfl ?_
  funext c j
  exact (if_neg (by omega)).symm
theorem flJ_s (μ : j_M) (a n : Nat) (v : Int64) : j_pL (flJ μ a n v) a n v = flJ μ a (n + 1) v := by
  unfold flJ j_pL
  refine Prod.ext rfl ?_
  funext c j
  show (if c = a ∧ j = n then v else if c = a ∧ j < n then v else μ.2 c j) = (if c = a ∧ j < n + 1 then v else μ.2 c j)
  by_cases h : c = a ∧ j = n
  · rw [if_pos h, if_pos (by omega)]
  · rw [if_neg h]
    by_cases h2 : c = a ∧ j < n
    · rw [if_pos h2, if_pos (by omega)]
    · rw [if_neg h2, if_neg (by omega)]

set_option maxRecDepth 100000 in
theorem c_J6_lob (Λ : j_L) (i : Int32) (μ : j_M) : Ct yJ6_lowestOneBit_0f7a4 cJ6_lowestOneBit_0f7a4 1 (some .int) 0 Λ [.int i] μ (pI fun r μ2 => r = (jlob i) ∧ μ2 = μ) := by
  refine Ct.go (lo := [some (.int i)]) (by decide) (Nat.le_of_ble_eq_true rfl) rfl rfl (fun X F => ?_)
  have F : Fx X cJ6_lowestOneBit_0f7a4 RJ6 0 (some .int) Λ := F
  refine v_iload_n (pc := 0) (i := 0) F dJ6_lowestOneBit_0f7a4_0 rfl rfl ?_
  refine v_iload_n (pc := 1) (i := 0) F dJ6_lowestOneBit_0f7a4_1 rfl rfl ?_
  refine v_ineg (pc := 2) F dJ6_lowestOneBit_0f7a4_2 ?_
  refine v_iand (pc := 3) F dJ6_lowestOneBit_0f7a4_3 ?_
  refine v_ireturn (pc := 4) F dJ6_lowestOneBit_0f7a4_4 (rfl) ?_
  exact ⟨rfl, rfl⟩

set_option maxRecDepth 100000 in
theorem c_J6_nlz (Λ : j_L) (i : Int32) (μ : j_M) : Ct yJ6_numberOfLeadingZeros_0f7a4 cJ6_numberOfLeadingZeros_0f7a4 2 (some .int) 0 Λ [.int i] μ (pI fun r μ2 => r = (jnlz i) ∧ μ2 = μ) := by
  refine Ct.go (lo := [some (.int i), none]) (by decide) (Nat.le_of_ble_eq_true rfl) rfl rfl (fun X F => ?_)
  have F : Fx X cJ6_numberOfLeadingZeros_0f7a4 RJ6 0 (some .int) Λ := F
  refine v_iload_n (pc := 0) (i := 0) F dJ6_numberOfLeadingZeros_0f7a4_0 rfl rfl ?_
  refine v_if_gt (pc := 1) (tgt := 15) F dJ6_numberOfLeadingZeros_0f7a4_1 (by decide) (fun h1_1 => ?_) (fun h1_1 => ?_)
  · skip
    refine v_bipush (pc := 15) (v := nI 31) F dJ6_numberOfLeadingZeros_0f7a4_15 (by decide) ?_
    refine v_istore_n (pc := 17) (lo' := [some (.int _), some (.int _)]) F dJ6_numberOfLeadingZeros_0f7a4_17 rfl rfl (Nat.le_of_ble_eq_true rfl) rfl ?_
    refine v_iload_n (pc := 18) (i := 0) F dJ6_numberOfLeadingZeros_0f7a4_18 rfl rfl ?_
    refine v_ldcw (pc := 19) F dJ6_numberOfLeadingZeros_0f7a4_19 kcJ6_264 ?_
    refine v_icmp_lt (pc := 22) (tgt := 33) F dJ6_numberOfLeadingZeros_0f7a4_22 (by decide) (fun h22_2 => ?_) (fun h22_2 => ?_)
    · skip
      refine v_iload_n (pc := 33) (i := 0) F dJ6_numberOfLeadingZeros_0f7a4_33 rfl rfl ?_
      refine v_sipush (pc := 34) (v := nI 256) F dJ6_numberOfLeadingZeros_0f7a4_34 (by decide) ?_
      refine v_icmp_lt (pc := 37) (tgt := 48) F dJ6_numberOfLeadingZeros_0f7a4_37 (by decide) (fun h37_3 => ?_) (fun h37_3 => ?_)
      · skip
        refine v_iload_n (pc := 48) (i := 0) F dJ6_numberOfLeadingZeros_0f7a4_48 rfl rfl ?_
        refine v_bipush (pc := 49) (v := nI 16) F dJ6_numberOfLeadingZeros_0f7a4_49 (by decide) ?_
        refine v_icmp_lt (pc := 51) (tgt := 61) F dJ6_numberOfLeadingZeros_0f7a4_51 (by decide) (fun h51_4 => ?_) (fun h51_4 => ?_)
        · skip
          refine v_iload_n (pc := 61) (i := 0) F dJ6_numberOfLeadingZeros_0f7a4_61 rfl rfl ?_
          refine v_iconst (pc := 62) (v := nI 4) F dJ6_numberOfLeadingZeros_0f7a4_62 (by decide) ?_
          refine v_icmp_lt (pc := 63) (tgt := 73) F dJ6_numberOfLeadingZeros_0f7a4_63 (by decide) (fun h63_5 => ?_) (fun h63_5 => ?_)
          · skip
            refine v_iload_n (pc := 73) (i := 1) F dJ6_numberOfLeadingZeros_0f7a4_73 rfl rfl ?_
            refine v_iload_n (pc := 74) (i := 0) F dJ6_numberOfLeadingZeros_0f7a4_74 rfl rfl ?_
            refine v_iconst (pc := 75) (v := nI 1) F dJ6_numberOfLeadingZeros_0f7a4_75 (by decide) ?_
            refine v_iushr (pc := 76) F dJ6_numberOfLeadingZeros_0f7a4_76 ?_
            refine v_isub (pc := 77) F dJ6_numberOfLeadingZeros_0f7a4_77 ?_
            refine v_ireturn (pc := 78) F dJ6_numberOfLeadingZeros_0f7a4_78 (rfl) ?_
            refine ⟨?_, rfl⟩
            unfold jnlz
            try unfold jz1
            try unfold jz2
            try unfold jz3
            try unfold jz4
            try unfold ju
            simp only [h1_1, h22_2, h37_3, h51_4, h63_5, ↓reduceIte]
            all_goals first | done | rfl
          · skip
            refine v_iinc (pc := 66) (i := 1) (v := (nI 31 + Int32.ofInt (-2))) (lo' := [some (.int _), some (.int _)]) F dJ6_numberOfLeadingZeros_0f7a4_66 rfl (rfl) rfl rfl ?_
            refine v_iload_n (pc := 69) (i := 0) F dJ6_numberOfLeadingZeros_0f7a4_69 rfl rfl ?_
            refine v_iconst (pc := 70) (v := nI 2) F dJ6_numberOfLeadingZeros_0f7a4_70 (by decide) ?_
            refine v_iushr (pc := 71) F dJ6_numberOfLeadingZeros_0f7a4_71 ?_
            refine v_istore_n (pc := 72) (lo' := [some (.int _), some (.int _)]) F dJ6_numberOfLeadingZeros_0f7a4_72 rfl rfl (Nat.le_of_ble_eq_true rfl) rfl ?_
            refine v_iload_n (pc := 73) (i := 1) F dJ6_numberOfLeadingZeros_0f7a4_73 rfl rfl ?_
            refine v_iload_n (pc := 74) (i := 0) F dJ6_numberOfLeadingZeros_0f7a4_74 rfl rfl ?_
            refine v_iconst (pc := 75) (v := nI 1) F dJ6_numberOfLeadingZeros_0f7a4_75 (by decide) ?_
            refine v_iushr (pc := 76) F dJ6_numberOfLeadingZeros_0f7a4_76 ?_
            refine v_isub (pc := 77) F dJ6_numberOfLeadingZeros_0f7a4_77 ?_
            refine v_ireturn (pc := 78) F dJ6_numberOfLeadingZeros_0f7a4_78 (rfl) ?_
            refine ⟨?_, rfl⟩
            unfold jnlz
            try unfold jz1
            try unfold jz2
            try unfold jz3
            try unfold jz4
            try unfold ju
            simp only [h1_1, h22_2, h37_3, h51_4, h63_5, ↓reduceIte]
            all_goals first | done | rfl
        · skip
          refine v_iinc (pc := 54) (i := 1) (v := (nI 31 + Int32.ofInt (-4))) (lo' := [some (.int _), some (.int _)]) F dJ6_numberOfLeadingZeros_0f7a4_54 rfl (rfl) rfl rfl ?_
          refine v_iload_n (pc := 57) (i := 0) F dJ6_numberOfLeadingZeros_0f7a4_57 rfl rfl ?_
          refine v_iconst (pc := 58) (v := nI 4) F dJ6_numberOfLeadingZeros_0f7a4_58 (by decide) ?_
          refine v_iushr (pc := 59) F dJ6_numberOfLeadingZeros_0f7a4_59 ?_
          refine v_istore_n (pc := 60) (lo' := [some (.int _), some (.int _)]) F dJ6_numberOfLeadingZeros_0f7a4_60 rfl rfl (Nat.le_of_ble_eq_true rfl) rfl ?_
          refine v_iload_n (pc := 61) (i := 0) F dJ6_numberOfLeadingZeros_0f7a4_61 rfl rfl ?_
          refine v_iconst (pc := 62) (v := nI 4) F dJ6_numberOfLeadingZeros_0f7a4_62 (by decide) ?_
          refine v_icmp_lt (pc := 63) (tgt := 73) F dJ6_numberOfLeadingZeros_0f7a4_63 (by decide) (fun h63_6 => ?_) (fun h63_6 => ?_)
          · skip
            refine v_iload_n (pc := 73) (i := 1) F dJ6_numberOfLeadingZeros_0f7a4_73 rfl rfl ?_
            refine v_iload_n (pc := 74) (i := 0) F dJ6_numberOfLeadingZeros_0f7a4_74 rfl rfl ?_
            refine v_iconst (pc := 75) (v := nI 1) F dJ6_numberOfLeadingZeros_0f7a4_75 (by decide) ?_
            refine v_iushr (pc := 76) F dJ6_numberOfLeadingZeros_0f7a4_76 ?_
            refine v_isub (pc := 77) F dJ6_numberOfLeadingZeros_0f7a4_77 ?_
            refine v_ireturn (pc := 78) F dJ6_numberOfLeadingZeros_0f7a4_78 (rfl) ?_
            refine ⟨?_, rfl⟩
            unfold jnlz
            try unfold jz1
            try unfold jz2
            try unfold jz3
            try unfold jz4
            try unfold ju
            simp only [h1_1, h22_2, h37_3, h51_4, h63_6, ↓reduceIte]
            all_goals first | done | rfl
          · skip
            refine v_iinc (pc := 66) (i := 1) (v := ((nI 31 + Int32.ofInt (-4)) + Int32.ofInt (-2))) (lo' := [some (.int _), some (.int _)]) F dJ6_numberOfLeadingZeros_0f7a4_66 rfl (rfl) rfl rfl ?_
            refine v_iload_n (pc := 69) (i := 0) F dJ6_numberOfLeadingZeros_0f7a4_69 rfl rfl ?_
            refine v_iconst (pc := 70) (v := nI 2) F dJ6_numberOfLeadingZeros_0f7a4_70 (by decide) ?_
            refine v_iushr (pc := 71) F dJ6_numberOfLeadingZeros_0f7a4_71 ?_
            refine v_istore_n (pc := 72) (lo' := [some (.int _), some (.int _)]) F dJ6_numberOfLeadingZeros_0f7a4_72 rfl rfl (Nat.le_of_ble_eq_true rfl) rfl ?_
            refine v_iload_n (pc := 73) (i := 1) F dJ6_numberOfLeadingZeros_0f7a4_73 rfl rfl ?_
            refine v_iload_n (pc := 74) (i := 0) F dJ6_numberOfLeadingZeros_0f7a4_74 rfl rfl ?_
            refine v_iconst (pc := 75) (v := nI 1) F dJ6_numberOfLeadingZeros_0f7a4_75 (by decide) ?_
            refine v_iushr (pc := 76) F dJ6_numberOfLeadingZeros_0f7a4_76 ?_
            refine v_isub (pc := 77) F dJ6_numberOfLeadingZeros_0f7a4_77 ?_
            refine v_ireturn (pc := 78) F dJ6_numberOfLeadingZeros_0f7a4_78 (rfl) ?_
            refine ⟨?_, rfl⟩
            unfold jnlz
            try unfold jz1
            try unfold jz2
            try unfold jz3
            try unfold jz4
            try unfold ju
            simp only [h1_1, h22_2, h37_3, h51_4, h63_6, ↓reduceIte]
            all_goals first | done | rfl
      · skip
        refine v_iinc (pc := 40) (i := 1) (v := (nI 31 + Int32.ofInt (-8))) (lo' := [some (.int _), some (.int _)]) F dJ6_numberOfLeadingZeros_0f7a4_40 rfl (rfl) rfl rfl ?_
        refine v_iload_n (pc := 43) (i := 0) F dJ6_numberOfLeadingZeros_0f7a4_43 rfl rfl ?_
        refine v_bipush (pc := 44) (v := nI 8) F dJ6_numberOfLeadingZeros_0f7a4_44 (by decide) ?_
        refine v_iushr (pc := 46) F dJ6_numberOfLeadingZeros_0f7a4_46 ?_
        refine v_istore_n (pc := 47) (lo' := [some (.int _), some (.int _)]) F dJ6_numberOfLeadingZeros_0f7a4_47 rfl rfl (Nat.le_of_ble_eq_true rfl) rfl ?_
        refine v_iload_n (pc := 48) (i := 0) F dJ6_numberOfLeadingZeros_0f7a4_48 rfl rfl ?_
        refine v_bipush (pc := 49) (v := nI 16) F dJ6_numberOfLeadingZeros_0f7a4_49 (by decide) ?_
        refine v_icmp_lt (pc := 51) (tgt := 61) F dJ6_numberOfLeadingZeros_0f7a4_51 (by decide) (fun h51_7 => ?_) (fun h51_7 => ?_)
        · skip
          refine v_iload_n (pc := 61) (i := 0) F dJ6_numberOfLeadingZeros_0f7a4_61 rfl rfl ?_
          refine v_iconst (pc := 62) (v := nI 4) F dJ6_numberOfLeadingZeros_0f7a4_62 (by decide) ?_
          refine v_icmp_lt (pc := 63) (tgt := 73) F dJ6_numberOfLeadingZeros_0f7a4_63 (by decide) (fun h63_8 => ?_) (fun h63_8 => ?_)
          · skip
            refine v_iload_n (pc := 73) (i := 1) F dJ6_numberOfLeadingZeros_0f7a4_73 rfl rfl ?_
            refine v_iload_n (pc := 74) (i := 0) F dJ6_numberOfLeadingZeros_0f7a4_74 rfl rfl ?_
            refine v_iconst (pc := 75) (v := nI 1) F dJ6_numberOfLeadingZeros_0f7a4_75 (by decide) ?_
            refine v_iushr (pc := 76) F dJ6_numberOfLeadingZeros_0f7a4_76 ?_
            refine v_isub (pc := 77) F dJ6_numberOfLeadingZeros_0f7a4_77 ?_
            refine v_ireturn (pc := 78) F dJ6_numberOfLeadingZeros_0f7a4_78 (rfl) ?_
            refine ⟨?_, rfl⟩
            unfold jnlz
            try unfold jz1
            try unfold jz2
            try unfold jz3
            try unfold jz4
            try unfold ju
            simp only [h1_1, h22_2, h37_3, h51_7, h63_8, ↓reduceIte]
            all_goals first | done | rfl
          · skip
            refine v_iinc (pc := 66) (i := 1) (v := ((nI 31 + Int32.ofInt (-8)) + Int32.ofInt (-2))) (lo' := [some (.int _), some (.int _)]) F dJ6_numberOfLeadingZeros_0f7a4_66 rfl (rfl) rfl rfl ?_
            refine v_iload_n (pc := 69) (i := 0) F dJ6_numberOfLeadingZeros_0f7a4_69 rfl rfl ?_
            refine v_iconst (pc := 70) (v := nI 2) F dJ6_numberOfLeadingZeros_0f7a4_70 (by decide) ?_
            refine v_iushr (pc := 71) F dJ6_numberOfLeadingZeros_0f7a4_71 ?_
            refine v_istore_n (pc := 72) (lo' := [some (.int _), some (.int _)]) F dJ6_numberOfLeadingZeros_0f7a4_72 rfl rfl (Nat.le_of_ble_eq_true rfl) rfl ?_
            refine v_iload_n (pc := 73) (i := 1) F dJ6_numberOfLeadingZeros_0f7a4_73 rfl rfl ?_
            refine v_iload_n (pc := 74) (i := 0) F dJ6_numberOfLeadingZeros_0f7a4_74 rfl rfl ?_
            refine v_iconst (pc := 75) (v := nI 1) F dJ6_numberOfLeadingZeros_0f7a4_75 (by decide) ?_
            refine v_iushr (pc := 76) F dJ6_numberOfLeadingZeros_0f7a4_76 ?_
            refine v_isub (pc := 77) F dJ6_numberOfLeadingZeros_0f7a4_77 ?_
            refine v_ireturn (pc := 78) F dJ6_numberOfLeadingZeros_0f7a4_78 (rfl) ?_
            refine ⟨?_, rfl⟩
            unfold jnlz
            try unfold jz1
            try unfold jz2
            try unfold jz3
            try unfold jz4
            try unfold ju
            simp only [h1_1, h22_2, h37_3, h51_7, h63_8, ↓reduceIte]
            all_goals first | done | rfl
        · skip
          refine v_iinc (pc := 54) (i := 1) (v := ((nI 31 + Int32.ofInt (-8)) + Int32.ofInt (-4))) (lo' := [some (.int _), some (.int _)]) F dJ6_numberOfLeadingZeros_0f7a4_54 rfl (rfl) rfl rfl ?_
          refine v_iload_n (pc := 57) (i := 0) F dJ6_numberOfLeadingZeros_0f7a4_57 rfl rfl ?_
          refine v_iconst (pc := 58) (v := nI 4) F dJ6_numberOfLeadingZeros_0f7a4_58 (by decide) ?_
          refine v_iushr (pc := 59) F dJ6_numberOfLeadingZeros_0f7a4_59 ?_
          refine v_istore_n (pc := 60) (lo' := [some (.int _), some (.int _)]) F dJ6_numberOfLeadingZeros_0f7a4_60 rfl rfl (Nat.le_of_ble_eq_true rfl) rfl ?_
          refine v_iload_n (pc := 61) (i := 0) F dJ6_numberOfLeadingZeros_0f7a4_61 rfl rfl ?_
          refine v_iconst (pc := 62) (v := nI 4) F dJ6_numberOfLeadingZeros_0f7a4_62 (by decide) ?_
          refine v_icmp_lt (pc := 63) (tgt := 73) F dJ6_numberOfLeadingZeros_0f7a4_63 (by decide) (fun h63_9 => ?_) (fun h63_9 => ?_)
          · skip
            refine v_iload_n (pc := 73) (i := 1) F dJ6_numberOfLeadingZeros_0f7a4_73 rfl rfl ?_
            refine v_iload_n (pc := 74) (i := 0) F dJ6_numberOfLeadingZeros_0f7a4_74 rfl rfl ?_
            refine v_iconst (pc := 75) (v := nI 1) F dJ6_numberOfLeadingZeros_0f7a4_75 (by decide) ?_
            refine v_iushr (pc := 76) F dJ6_numberOfLeadingZeros_0f7a4_76 ?_
            refine v_isub (pc := 77) F dJ6_numberOfLeadingZeros_0f7a4_77 ?_
            refine v_ireturn (pc := 78) F dJ6_numberOfLeadingZeros_0f7a4_78 (rfl) ?_
            refine ⟨?_, rfl⟩
            unfold jnlz
            try unfold jz1
            try unfold jz2
            try unfold jz3
            try unfold jz4
            try unfold ju
            simp only [h1_1, h22_2, h37_3, h51_7, h63_9, ↓reduceIte]
            all_goals first | done | rfl
          · skip
            refine v_iinc (pc := 66) (i := 1) (v := (((nI 31 + Int32.ofInt (-8)) + Int32.ofInt (-4)) + Int32.ofInt (-2))) (lo' := [some (.int _), some (.int _)]) F dJ6_numberOfLeadingZeros_0f7a4_66 rfl (rfl) rfl rfl ?_
            refine v_iload_n (pc := 69) (i := 0) F dJ6_numberOfLeadingZeros_0f7a4_69 rfl rfl ?_
            refine v_iconst (pc := 70) (v := nI 2) F dJ6_numberOfLeadingZeros_0f7a4_70 (by decide) ?_
            refine v_iushr (pc := 71) F dJ6_numberOfLeadingZeros_0f7a4_71 ?_
            refine v_istore_n (pc := 72) (lo' := [some (.int _), some (.int _)]) F dJ6_numberOfLeadingZeros_0f7a4_72 rfl rfl (Nat.le_of_ble_eq_true rfl) rfl ?_
            refine v_iload_n (pc := 73) (i := 1) F dJ6_numberOfLeadingZeros_0f7a4_73 rfl rfl ?_
            refine v_iload_n (pc := 74) (i := 0) F dJ6_numberOfLeadingZeros_0f7a4_74 rfl rfl ?_
            refine v_iconst (pc := 75) (v := nI 1) F dJ6_numberOfLeadingZeros_0f7a4_75 (by decide) ?_
            refine v_iushr (pc := 76) F dJ6_numberOfLeadingZeros_0f7a4_76 ?_
            refine v_isub (pc := 77) F dJ6_numberOfLeadingZeros_0f7a4_77 ?_
            refine v_ireturn (pc := 78) F dJ6_numberOfLeadingZeros_0f7a4_78 (rfl) ?_
            refine ⟨?_, rfl⟩
            unfold jnlz
            try unfold jz1
            try unfold jz2
            try unfold jz3
            try unfold jz4
            try unfold ju
            simp only [h1_1, h22_2, h37_3, h51_7, h63_9, ↓reduceIte]
            all_goals first | done | rfl
    · skip
      refine v_iinc (pc := 25) (i := 1) (v := (nI 31 + Int32.ofInt (-16))) (lo' := [some (.int _), some (.int _)]) F dJ6_numberOfLeadingZeros_0f7a4_25 rfl (rfl) rfl rfl ?_
      refine v_iload_n (pc := 28) (i := 0) F dJ6_numberOfLeadingZeros_0f7a4_28 rfl rfl ?_
      refine v_bipush (pc := 29) (v := nI 16) F dJ6_numberOfLeadingZeros_0f7a4_29 (by decide) ?_
      refine v_iushr (pc := 31) F dJ6_numberOfLeadingZeros_0f7a4_31 ?_
      refine v_istore_n (pc := 32) (lo' := [some (.int _), some (.int _)]) F dJ6_numberOfLeadingZeros_0f7a4_32 rfl rfl (Nat.le_of_ble_eq_true rfl) rfl ?_
      refine v_iload_n (pc := 33) (i := 0) F dJ6_numberOfLeadingZeros_0f7a4_33 rfl rfl ?_
      refine v_sipush (pc := 34) (v := nI 256) F dJ6_numberOfLeadingZeros_0f7a4_34 (by decide) ?_
      refine v_icmp_lt (pc := 37) (tgt := 48) F dJ6_numberOfLeadingZeros_0f7a4_37 (by decide) (fun h37_10 => ?_) (fun h37_10 => ?_)
      · skip
        refine v_iload_n (pc := 48) (i := 0) F dJ6_numberOfLeadingZeros_0f7a4_48 rfl rfl ?_
        refine v_bipush (pc := 49) (v := nI 16) F dJ6_numberOfLeadingZeros_0f7a4_49 (by decide) ?_
        refine v_icmp_lt (pc := 51) (tgt := 61) F dJ6_numberOfLeadingZeros_0f7a4_51 (by decide) (fun h51_11 => ?_) (fun h51_11 => ?_)
        · skip
          refine v_iload_n (pc := 61) (i := 0) F dJ6_numberOfLeadingZeros_0f7a4_61 rfl rfl ?_
          refine v_iconst (pc := 62) (v := nI 4) F dJ6_numberOfLeadingZeros_0f7a4_62 (by decide) ?_
          refine v_icmp_lt (pc := 63) (tgt := 73) F dJ6_numberOfLeadingZeros_0f7a4_63 (by decide) (fun h63_12 => ?_) (fun h63_12 => ?_)
          · skip
            refine v_iload_n (pc := 73) (i := 1) F dJ6_numberOfLeadingZeros_0f7a4_73 rfl rfl ?_
            refine v_iload_n (pc := 74) (i := 0) F dJ6_numberOfLeadingZeros_0f7a4_74 rfl rfl ?_
            refine v_iconst (pc := 75) (v := nI 1) F dJ6_numberOfLeadingZeros_0f7a4_75 (by decide) ?_
            refine v_iushr (pc := 76) F dJ6_numberOfLeadingZeros_0f7a4_76 ?_
            refine v_isub (pc := 77) F dJ6_numberOfLeadingZeros_0f7a4_77 ?_
            refine v_ireturn (pc := 78) F dJ6_numberOfLeadingZeros_0f7a4_78 (rfl) ?_
            refine ⟨?_, rfl⟩
            unfold jnlz
            try unfold jz1
            try unfold jz2
            try unfold jz3
            try unfold jz4
            try unfold ju
            simp only [h1_1, h22_2, h37_10, h51_11, h63_12, ↓reduceIte]
            all_goals first | done | rfl
          · skip
            refine v_iinc (pc := 66) (i := 1) (v := ((nI 31 + Int32.ofInt (-16)) + Int32.ofInt (-2))) (lo' := [some (.int _), some (.int _)]) F dJ6_numberOfLeadingZeros_0f7a4_66 rfl (rfl) rfl rfl ?_
            refine v_iload_n (pc := 69) (i := 0) F dJ6_numberOfLeadingZeros_0f7a4_69 rfl rfl ?_
            refine v_iconst (pc := 70) (v := nI 2) F dJ6_numberOfLeadingZeros_0f7a4_70 (by decide) ?_
            refine v_iushr (pc := 71) F dJ6_numberOfLeadingZeros_0f7a4_71 ?_
            refine v_istore_n (pc := 72) (lo' := [some (.int _), some (.int _)]) F dJ6_numberOfLeadingZeros_0f7a4_72 rfl rfl (Nat.le_of_ble_eq_true rfl) rfl ?_
            refine v_iload_n (pc := 73) (i := 1) F dJ6_numberOfLeadingZeros_0f7a4_73 rfl rfl ?_
            refine v_iload_n (pc := 74) (i := 0) F dJ6_numberOfLeadingZeros_0f7a4_74 rfl rfl ?_
            refine v_iconst (pc := 75) (v := nI 1) F dJ6_numberOfLeadingZeros_0f7a4_75 (by decide) ?_
            refine v_iushr (pc := 76) F dJ6_numberOfLeadingZeros_0f7a4_76 ?_
            refine v_isub (pc := 77) F dJ6_numberOfLeadingZeros_0f7a4_77 ?_
            refine v_ireturn (pc := 78) F dJ6_numberOfLeadingZeros_0f7a4_78 (rfl) ?_
            refine ⟨?_, rfl⟩
            unfold jnlz
            try unfold jz1
            try unfold jz2
            try unfold jz3
            try unfold jz4
            try unfold ju
            simp only [h1_1, h22_2, h37_10, h51_11, h63_12, ↓reduceIte]
            all_goals first | done | rfl
        · skip
          refine v_iinc (pc := 54) (i := 1) (v := ((nI 31 + Int32.ofInt (-16)) + Int32.ofInt (-4))) (lo' := [some (.int _), some (.int _)]) F dJ6_numberOfLeadingZeros_0f7a4_54 rfl (rfl) rfl rfl ?_
          refine v_iload_n (pc := 57) (i := 0) F dJ6_numberOfLeadingZeros_0f7a4_57 rfl rfl ?_
          refine v_iconst (pc := 58) (v := nI 4) F dJ6_numberOfLeadingZeros_0f7a4_58 (by decide) ?_
          refine v_iushr (pc := 59) F dJ6_numberOfLeadingZeros_0f7a4_59 ?_
          refine v_istore_n (pc := 60) (lo' := [some (.int _), some (.int _)]) F dJ6_numberOfLeadingZeros_0f7a4_60 rfl rfl (Nat.le_of_ble_eq_true rfl) rfl ?_
          refine v_iload_n (pc := 61) (i := 0) F dJ6_numberOfLeadingZeros_0f7a4_61 rfl rfl ?_
          refine v_iconst (pc := 62) (v := nI 4) F dJ6_numberOfLeadingZeros_0f7a4_62 (by decide) ?_
          refine v_icmp_lt (pc := 63) (tgt := 73) F dJ6_numberOfLeadingZeros_0f7a4_63 (by decide) (fun h63_13 => ?_) (fun h63_13 => ?_)
          · skip
            refine v_iload_n (pc := 73) (i := 1) F dJ6_numberOfLeadingZeros_0f7a4_73 rfl rfl ?_
            refine v_iload_n (pc := 74) (i := 0) F dJ6_numberOfLeadingZeros_0f7a4_74 rfl rfl ?_
            refine v_iconst (pc := 75) (v := nI 1) F dJ6_numberOfLeadingZeros_0f7a4_75 (by decide) ?_
            refine v_iushr (pc := 76) F dJ6_numberOfLeadingZeros_0f7a4_76 ?_
            refine v_isub (pc := 77) F dJ6_numberOfLeadingZeros_0f7a4_77 ?_
            refine v_ireturn (pc := 78) F dJ6_numberOfLeadingZeros_0f7a4_78 (rfl) ?_
            refine ⟨?_, rfl⟩
            unfold jnlz
            try unfold jz1
            try unfold jz2
            try unfold jz3
            try unfold jz4
            try unfold ju
            simp only [h1_1, h22_2, h37_10, h51_11, h63_13, ↓reduceIte]
            all_goals first | done | rfl
          · skip
            refine v_iinc (pc := 66) (i := 1) (v := (((nI 31 + Int32.ofInt (-16)) + Int32.ofInt (-4)) + Int32.ofInt (-2))) (lo' := [some (.int _), some (.int _)]) F dJ6_numberOfLeadingZeros_0f7a4_66 rfl (rfl) rfl rfl ?_
            refine v_iload_n (pc := 69) (i := 0) F dJ6_numberOfLeadingZeros_0f7a4_69 rfl rfl ?_
            refine v_iconst (pc := 70) (v := nI 2) F dJ6_numberOfLeadingZeros_0f7a4_70 (by decide) ?_
            refine v_iushr (pc := 71) F dJ6_numberOfLeadingZeros_0f7a4_71 ?_
            refine v_istore_n (pc := 72) (lo' := [some (.int _), some (.int _)]) F dJ6_numberOfLeadingZeros_0f7a4_72 rfl rfl (Nat.le_of_ble_eq_true rfl) rfl ?_
            refine v_iload_n (pc := 73) (i := 1) F dJ6_numberOfLeadingZeros_0f7a4_73 rfl rfl ?_
            refine v_iload_n (pc := 74) (i := 0) F dJ6_numberOfLeadingZeros_0f7a4_74 rfl rfl ?_
            refine v_iconst (pc := 75) (v := nI 1) F dJ6_numberOfLeadingZeros_0f7a4_75 (by decide) ?_
            refine v_iushr (pc := 76) F dJ6_numberOfLeadingZeros_0f7a4_76 ?_
            refine v_isub (pc := 77) F dJ6_numberOfLeadingZeros_0f7a4_77 ?_
            refine v_ireturn (pc := 78) F dJ6_numberOfLeadingZeros_0f7a4_78 (rfl) ?_
            refine ⟨?_, rfl⟩
            unfold jnlz
            try unfold jz1
            try unfold jz2
            try unfold jz3
            try unfold jz4
            try unfold ju
            simp only [h1_1, h22_2, h37_10, h51_11, h63_13, ↓reduceIte]
            all_goals first | done | rfl
      · skip
        refine v_iinc (pc := 40) (i := 1) (v := ((nI 31 + Int32.ofInt (-16)) + Int32.ofInt (-8))) (lo' := [some (.int _), some (.int _)]) F dJ6_numberOfLeadingZeros_0f7a4_40 rfl (rfl) rfl rfl ?_
        refine v_iload_n (pc := 43) (i := 0) F dJ6_numberOfLeadingZeros_0f7a4_43 rfl rfl ?_
        refine v_bipush (pc := 44) (v := nI 8) F dJ6_numberOfLeadingZeros_0f7a4_44 (by decide) ?_
        refine v_iushr (pc := 46) F dJ6_numberOfLeadingZeros_0f7a4_46 ?_
        refine v_istore_n (pc := 47) (lo' := [some (.int _), some (.int _)]) F dJ6_numberOfLeadingZeros_0f7a4_47 rfl rfl (Nat.le_of_ble_eq_true rfl) rfl ?_
        refine v_iload_n (pc := 48) (i := 0) F dJ6_numberOfLeadingZeros_0f7a4_48 rfl rfl ?_
        refine v_bipush (pc := 49) (v := nI 16) F dJ6_numberOfLeadingZeros_0f7a4_49 (by decide) ?_
        refine v_icmp_lt (pc := 51) (tgt := 61) F dJ6_numberOfLeadingZeros_0f7a4_51 (by decide) (fun h51_14 => ?_) (fun h51_14 => ?_)
        · skip
          refine v_iload_n (pc := 61) (i := 0) F dJ6_numberOfLeadingZeros_0f7a4_61 rfl rfl ?_
          refine v_iconst (pc := 62) (v := nI 4) F dJ6_numberOfLeadingZeros_0f7a4_62 (by decide) ?_
          refine v_icmp_lt (pc := 63) (tgt := 73) F dJ6_numberOfLeadingZeros_0f7a4_63 (by decide) (fun h63_15 => ?_) (fun h63_15 => ?_)
          · skip
            refine v_iload_n (pc := 73) (i := 1) F dJ6_numberOfLeadingZeros_0f7a4_73 rfl rfl ?_
            refine v_iload_n (pc := 74) (i := 0) F dJ6_numberOfLeadingZeros_0f7a4_74 rfl rfl ?_
            refine v_iconst (pc := 75) (v := nI 1) F dJ6_numberOfLeadingZeros_0f7a4_75 (by decide) ?_
            refine v_iushr (pc := 76) F dJ6_numberOfLeadingZeros_0f7a4_76 ?_
            refine v_isub (pc := 77) F dJ6_numberOfLeadingZeros_0f7a4_77 ?_
            refine v_ireturn (pc := 78) F dJ6_numberOfLeadingZeros_0f7a4_78 (rfl) ?_
            refine ⟨?_, rfl⟩
            unfold jnlz
            try unfold jz1
            try unfold jz2
            try unfold jz3
            try unfold jz4
            try unfold ju
            simp only [h1_1, h22_2, h37_10, h51_14, h63_15, ↓reduceIte]
            all_goals first | done | rfl
          · skip
            refine v_iinc (pc := 66) (i := 1) (v := (((nI 31 + Int32.ofInt (-16)) + Int32.ofInt (-8)) + Int32.ofInt (-2))) (lo' := [some (.int _), some (.int _)]) F dJ6_numberOfLeadingZeros_0f7a4_66 rfl (rfl) rfl rfl ?_
            refine v_iload_n (pc := 69) (i := 0) F dJ6_numberOfLeadingZeros_0f7a4_69 rfl rfl ?_
            refine v_iconst (pc := 70) (v := nI 2) F dJ6_numberOfLeadingZeros_0f7a4_70 (by decide) ?_
            refine v_iushr (pc := 71) F dJ6_numberOfLeadingZeros_0f7a4_71 ?_
            refine v_istore_n (pc := 72) (lo' := [some (.int _), some (.int _)]) F dJ6_numberOfLeadingZeros_0f7a4_72 rfl rfl (Nat.le_of_ble_eq_true rfl) rfl ?_
            refine v_iload_n (pc := 73) (i := 1) F dJ6_numberOfLeadingZeros_0f7a4_73 rfl rfl ?_
            refine v_iload_n (pc := 74) (i := 0) F dJ6_numberOfLeadingZeros_0f7a4_74 rfl rfl ?_
            refine v_iconst (pc := 75) (v := nI 1) F dJ6_numberOfLeadingZeros_0f7a4_75 (by decide) ?_
            refine v_iushr (pc := 76) F dJ6_numberOfLeadingZeros_0f7a4_76 ?_
            refine v_isub (pc := 77) F dJ6_numberOfLeadingZeros_0f7a4_77 ?_
            refine v_ireturn (pc := 78) F dJ6_numberOfLeadingZeros_0f7a4_78 (rfl) ?_
            refine ⟨?_, rfl⟩
            unfold jnlz
            try unfold jz1
            try unfold jz2
            try unfold jz3
            try unfold jz4
            try unfold ju
            simp only [h1_1, h22_2, h37_10, h51_14, h63_15, ↓reduceIte]
            all_goals first | done | rfl
        · skip
          refine v_iinc (pc := 54) (i := 1) (v := (((nI 31 + Int32.ofInt (-16)) + Int32.ofInt (-8)) + Int32.ofInt (-4))) (lo' := [some (.int _), some (.int _)]) F dJ6_numberOfLeadingZeros_0f7a4_54 rfl (rfl) rfl rfl ?_
          refine v_iload_n (pc := 57) (i := 0) F dJ6_numberOfLeadingZeros_0f7a4_57 rfl rfl ?_
          refine v_iconst (pc := 58) (v := nI 4) F dJ6_numberOfLeadingZeros_0f7a4_58 (by decide) ?_
          refine v_iushr (pc := 59) F dJ6_numberOfLeadingZeros_0f7a4_59 ?_
          refine v_istore_n (pc := 60) (lo' := [some (.int _), some (.int _)]) F dJ6_numberOfLeadingZeros_0f7a4_60 rfl rfl (Nat.le_of_ble_eq_true rfl) rfl ?_
          refine v_iload_n (pc := 61) (i := 0) F dJ6_numberOfLeadingZeros_0f7a4_61 rfl rfl ?_
          refine v_iconst (pc := 62) (v := nI 4) F dJ6_numberOfLeadingZeros_0f7a4_62 (by decide) ?_
          refine v_icmp_lt (pc := 63) (tgt := 73) F dJ6_numberOfLeadingZeros_0f7a4_63 (by decide) (fun h63_16 => ?_) (fun h63_16 => ?_)
          · skip
            refine v_iload_n (pc := 73) (i := 1) F dJ6_numberOfLeadingZeros_0f7a4_73 rfl rfl ?_
            refine v_iload_n (pc := 74) (i := 0) F dJ6_numberOfLeadingZeros_0f7a4_74 rfl rfl ?_
            refine v_iconst (pc := 75) (v := nI 1) F dJ6_numberOfLeadingZeros_0f7a4_75 (by decide) ?_
            refine v_iushr (pc := 76) F dJ6_numberOfLeadingZeros_0f7a4_76 ?_
            refine v_isub (pc := 77) F dJ6_numberOfLeadingZeros_0f7a4_77 ?_
            refine v_ireturn (pc := 78) F dJ6_numberOfLeadingZeros_0f7a4_78 (rfl) ?_
            refine ⟨?_, rfl⟩
            unfold jnlz
            try unfold jz1
            try unfold jz2
            try unfold jz3
            try unfold jz4
            try unfold ju
            simp only [h1_1, h22_2, h37_10, h51_14, h63_16, ↓reduceIte]
            all_goals first | done | rfl
          · skip
            refine v_iinc (pc := 66) (i := 1) (v := ((((nI 31 + Int32.ofInt (-16)) + Int32.ofInt (-8)) + Int32.ofInt (-4)) + Int32.ofInt (-2))) (lo' := [some (.int _), some (.int _)]) F dJ6_numberOfLeadingZeros_0f7a4_66 rfl (rfl) rfl rfl ?_
            refine v_iload_n (pc := 69) (i := 0) F dJ6_numberOfLeadingZeros_0f7a4_69 rfl rfl ?_
            refine v_iconst (pc := 70) (v := nI 2) F dJ6_numberOfLeadingZeros_0f7a4_70 (by decide) ?_
            refine v_iushr (pc := 71) F dJ6_numberOfLeadingZeros_0f7a4_71 ?_
            refine v_istore_n (pc := 72) (lo' := [some (.int _), some (.int _)]) F dJ6_numberOfLeadingZeros_0f7a4_72 rfl rfl (Nat.le_of_ble_eq_true rfl) rfl ?_
            refine v_iload_n (pc := 73) (i := 1) F dJ6_numberOfLeadingZeros_0f7a4_73 rfl rfl ?_
            refine v_iload_n (pc := 74) (i := 0) F dJ6_numberOfLeadingZeros_0f7a4_74 rfl rfl ?_
            refine v_iconst (pc := 75) (v := nI 1) F dJ6_numberOfLeadingZeros_0f7a4_75 (by decide) ?_
            refine v_iushr (pc := 76) F dJ6_numberOfLeadingZeros_0f7a4_76 ?_
            refine v_isub (pc := 77) F dJ6_numberOfLeadingZeros_0f7a4_77 ?_
            refine v_ireturn (pc := 78) F dJ6_numberOfLeadingZeros_0f7a4_78 (rfl) ?_
            refine ⟨?_, rfl⟩
            unfold jnlz
            try unfold jz1
            try unfold jz2
            try unfold jz3
            try unfold jz4
            try unfold ju
            simp only [h1_1, h22_2, h37_10, h51_14, h63_16, ↓reduceIte]
            all_goals first | done | rfl
  · skip
    refine v_iload_n (pc := 4) (i := 0) F dJ6_numberOfLeadingZeros_0f7a4_4 rfl rfl ?_
    refine v_if_ne (pc := 5) (tgt := 13) F dJ6_numberOfLeadingZeros_0f7a4_5 (by decide) (fun h5_17 => ?_) (fun h5_17 => ?_)
    · skip
      refine v_iconst (pc := 13) (v := nI 0) F dJ6_numberOfLeadingZeros_0f7a4_13 (by decide) ?_
      refine v_ireturn (pc := 14) F dJ6_numberOfLeadingZeros_0f7a4_14 (rfl) ?_
      refine ⟨?_, rfl⟩
      unfold jnlz
      try unfold jz1
      try unfold jz2
      try unfold jz3
      try unfold jz4
      try unfold ju
      simp only [h1_1, h5_17, ↓reduceIte]
      all_goals first | done | rfl
    · skip
      refine v_bipush (pc := 8) (v := nI 32) F dJ6_numberOfLeadingZeros_0f7a4_8 (by decide) ?_
      refine v_goto (pc := 10) (tgt := 14) F dJ6_numberOfLeadingZeros_0f7a4_10 (by decide) ?_
      refine v_ireturn (pc := 14) F dJ6_numberOfLeadingZeros_0f7a4_14 (rfl) ?_
      refine ⟨?_, rfl⟩
      unfold jnlz
      try unfold jz1
      try unfold jz2
      try unfold jz3
      try unfold jz4
      try unfold ju
      simp only [h1_1, h5_17, ↓reduceIte]
      all_goals first | done | rfl

set_option maxRecDepth 100000 in
theorem c_J6_hob (Λ : j_L) (i : Int32) (μ : j_M) : Ct yJ6_highestOneBit_0f7a4 cJ6_highestOneBit_0f7a4 1 (some .int) 1 Λ [.int i] μ (pI fun r μ2 => r = (jhob i) ∧ μ2 = μ) := by
  refine Ct.go (lo := [some (.int i)]) (by decide) (Nat.le_of_ble_eq_true rfl) rfl rfl (fun X F => ?_)
  have F : Fx X cJ6_highestOneBit_0f7a4 RJ6 1 (some .int) Λ := F
  refine v_iload_n (pc := 0) (i := 0) F dJ6_highestOneBit_0f7a4_0 rfl rfl ?_
  refine v_ldc (pc := 1) F dJ6_highestOneBit_0f7a4_1 kcJ6_127 ?_
  refine v_iload_n (pc := 3) (i := 0) F dJ6_highestOneBit_0f7a4_3 rfl rfl ?_
  refine v_callSI (pc := 4) (As := [_]) (rest := [_, _]) F mJ6_numberOfLeadingZeros_0f7a4 kJ6_51 sm_J6_numberOfLeadingZeros_0f7a4 dJ6_highestOneBit_0f7a4_4 (c_J6_nlz _ _ _) (by decide) rfl rfl (Nat.le_of_ble_eq_true rfl) (fun x1 μ1 hp1 => ?_)
  rw [hp1.1, hp1.2]
  refine v_iushr (pc := 7) F dJ6_highestOneBit_0f7a4_7 ?_
  refine v_iand (pc := 8) F dJ6_highestOneBit_0f7a4_8 ?_
  refine v_ireturn (pc := 9) F dJ6_highestOneBit_0f7a4_9 (rfl) ?_
  exact ⟨rfl, rfl⟩

set_option maxRecDepth 100000 in
theorem c_J6_ntz (Λ : j_L) (i : Int32) (μ : j_M) : Ct yJ6_numberOfTrailingZeros_0f7a4 cJ6_numberOfTrailingZeros_0f7a4 2 (some .int) 0 Λ [.int i] μ (pI fun r μ2 => r = (jntz i) ∧ μ2 = μ) := by
  refine Ct.go (lo := [some (.int i), none]) (by decide) (Nat.le_of_ble_eq_true rfl) rfl rfl (fun X F => ?_)
  have F : Fx X cJ6_numberOfTrailingZeros_0f7a4 RJ6 0 (some .int) Λ := F
  refine v_iload_n (pc := 0) (i := 0) F dJ6_numberOfTrailingZeros_0f7a4_0 rfl rfl ?_
  refine v_iconst (pc := 1) (v := (-1)) F dJ6_numberOfTrailingZeros_0f7a4_1 (by decide) ?_
  refine v_ixor (pc := 2) F dJ6_numberOfTrailingZeros_0f7a4_2 ?_
  refine v_iload_n (pc := 3) (i := 0) F dJ6_numberOfTrailingZeros_0f7a4_3 rfl rfl ?_
  refine v_iconst (pc := 4) (v := nI 1) F dJ6_numberOfTrailingZeros_0f7a4_4 (by decide) ?_
  refine v_isub (pc := 5) F dJ6_numberOfTrailingZeros_0f7a4_5 ?_
  refine v_iand (pc := 6) F dJ6_numberOfTrailingZeros_0f7a4_6 ?_
  refine v_istore_n (pc := 7) (lo' := [some (.int _), _]) F dJ6_numberOfTrailingZeros_0f7a4_7 rfl rfl (Nat.le_of_ble_eq_true rfl) rfl ?_
  refine v_iload_n (pc := 8) (i := 0) F dJ6_numberOfTrailingZeros_0f7a4_8 rfl rfl ?_
  refine v_if_gt (pc := 9) (tgt := 17) F dJ6_numberOfTrailingZeros_0f7a4_9 (by decide) (fun h9_1 => ?_) (fun h9_1 => ?_)
  · skip
    refine v_iconst (pc := 17) (v := nI 1) F dJ6_numberOfTrailingZeros_0f7a4_17 (by decide) ?_
    refine v_istore_n (pc := 18) (lo' := [some (.int _), some (.int _)]) F dJ6_numberOfTrailingZeros_0f7a4_18 rfl rfl (Nat.le_of_ble_eq_true rfl) rfl ?_
    refine v_iload_n (pc := 19) (i := 0) F dJ6_numberOfTrailingZeros_0f7a4_19 rfl rfl ?_
    refine v_ldcw (pc := 20) F dJ6_numberOfTrailingZeros_0f7a4_20 kcJ6_264 ?_
    refine v_icmp_le (pc := 23) (tgt := 34) F dJ6_numberOfTrailingZeros_0f7a4_23 (by decide) (fun h23_2 => ?_) (fun h23_2 => ?_)
    · skip
      refine v_iload_n (pc := 34) (i := 0) F dJ6_numberOfTrailingZeros_0f7a4_34 rfl rfl ?_
      refine v_sipush (pc := 35) (v := nI 256) F dJ6_numberOfTrailingZeros_0f7a4_35 (by decide) ?_
      refine v_icmp_le (pc := 38) (tgt := 49) F dJ6_numberOfTrailingZeros_0f7a4_38 (by decide) (fun h38_3 => ?_) (fun h38_3 => ?_)
      · skip
        refine v_iload_n (pc := 49) (i := 0) F dJ6_numberOfTrailingZeros_0f7a4_49 rfl rfl ?_
        refine v_bipush (pc := 50) (v := nI 16) F dJ6_numberOfTrailingZeros_0f7a4_50 (by decide) ?_
        refine v_icmp_le (pc := 52) (tgt := 62) F dJ6_numberOfTrailingZeros_0f7a4_52 (by decide) (fun h52_4 => ?_) (fun h52_4 => ?_)
        · skip
          refine v_iload_n (pc := 62) (i := 0) F dJ6_numberOfTrailingZeros_0f7a4_62 rfl rfl ?_
          refine v_iconst (pc := 63) (v := nI 4) F dJ6_numberOfTrailingZeros_0f7a4_63 (by decide) ?_
          refine v_icmp_le (pc := 64) (tgt := 74) F dJ6_numberOfTrailingZeros_0f7a4_64 (by decide) (fun h64_5 => ?_) (fun h64_5 => ?_)
          · skip
            refine v_iload_n (pc := 74) (i := 1) F dJ6_numberOfTrailingZeros_0f7a4_74 rfl rfl ?_
            refine v_iload_n (pc := 75) (i := 0) F dJ6_numberOfTrailingZeros_0f7a4_75 rfl rfl ?_
            refine v_iconst (pc := 76) (v := nI 1) F dJ6_numberOfTrailingZeros_0f7a4_76 (by decide) ?_
            refine v_iushr (pc := 77) F dJ6_numberOfTrailingZeros_0f7a4_77 ?_
            refine v_iadd (pc := 78) F dJ6_numberOfTrailingZeros_0f7a4_78 ?_
            refine v_ireturn (pc := 79) F dJ6_numberOfTrailingZeros_0f7a4_79 (rfl) ?_
            refine ⟨?_, rfl⟩
            unfold jntz jt0
            try unfold jt1
            try unfold jt2
            try unfold jt3
            try unfold jt4
            try unfold ju
            simp only [h9_1, h23_2, h38_3, h52_4, h64_5, ↓reduceIte]
            all_goals first | done | rfl
          · skip
            refine v_iinc (pc := 67) (i := 1) (v := (nI 1 + Int32.ofInt (2))) (lo' := [some (.int _), some (.int _)]) F dJ6_numberOfTrailingZeros_0f7a4_67 rfl (rfl) rfl rfl ?_
            refine v_iload_n (pc := 70) (i := 0) F dJ6_numberOfTrailingZeros_0f7a4_70 rfl rfl ?_
            refine v_iconst (pc := 71) (v := nI 2) F dJ6_numberOfTrailingZeros_0f7a4_71 (by decide) ?_
            refine v_iushr (pc := 72) F dJ6_numberOfTrailingZeros_0f7a4_72 ?_
            refine v_istore_n (pc := 73) (lo' := [some (.int _), some (.int _)]) F dJ6_numberOfTrailingZeros_0f7a4_73 rfl rfl (Nat.le_of_ble_eq_true rfl) rfl ?_
            refine v_iload_n (pc := 74) (i := 1) F dJ6_numberOfTrailingZeros_0f7a4_74 rfl rfl ?_
            refine v_iload_n (pc := 75) (i := 0) F dJ6_numberOfTrailingZeros_0f7a4_75 rfl rfl ?_
            refine v_iconst (pc := 76) (v := nI 1) F dJ6_numberOfTrailingZeros_0f7a4_76 (by decide) ?_
            refine v_iushr (pc := 77) F dJ6_numberOfTrailingZeros_0f7a4_77 ?_
            refine v_iadd (pc := 78) F dJ6_numberOfTrailingZeros_0f7a4_78 ?_
            refine v_ireturn (pc := 79) F dJ6_numberOfTrailingZeros_0f7a4_79 (rfl) ?_
            refine ⟨?_, rfl⟩
            unfold jntz jt0
            try unfold jt1
            try unfold jt2
            try unfold jt3
            try unfold jt4
            try unfold ju
            simp only [h9_1, h23_2, h38_3, h52_4, h64_5, ↓reduceIte]
            all_goals first | done | rfl
        · skip
          refine v_iinc (pc := 55) (i := 1) (v := (nI 1 + Int32.ofInt (4))) (lo' := [some (.int _), some (.int _)]) F dJ6_numberOfTrailingZeros_0f7a4_55 rfl (rfl) rfl rfl ?_
          refine v_iload_n (pc := 58) (i := 0) F dJ6_numberOfTrailingZeros_0f7a4_58 rfl rfl ?_
          refine v_iconst (pc := 59) (v := nI 4) F dJ6_numberOfTrailingZeros_0f7a4_59 (by decide) ?_
          refine v_iushr (pc := 60) F dJ6_numberOfTrailingZeros_0f7a4_60 ?_
          refine v_istore_n (pc := 61) (lo' := [some (.int _), some (.int _)]) F dJ6_numberOfTrailingZeros_0f7a4_61 rfl rfl (Nat.le_of_ble_eq_true rfl) rfl ?_
          refine v_iload_n (pc := 62) (i := 0) F dJ6_numberOfTrailingZeros_0f7a4_62 rfl rfl ?_
          refine v_iconst (pc := 63) (v := nI 4) F dJ6_numberOfTrailingZeros_0f7a4_63 (by decide) ?_
          refine v_icmp_le (pc := 64) (tgt := 74) F dJ6_numberOfTrailingZeros_0f7a4_64 (by decide) (fun h64_6 => ?_) (fun h64_6 => ?_)
          · skip
            refine v_iload_n (pc := 74) (i := 1) F dJ6_numberOfTrailingZeros_0f7a4_74 rfl rfl ?_
            refine v_iload_n (pc := 75) (i := 0) F dJ6_numberOfTrailingZeros_0f7a4_75 rfl rfl ?_
            refine v_iconst (pc := 76) (v := nI 1) F dJ6_numberOfTrailingZeros_0f7a4_76 (by decide) ?_
            refine v_iushr (pc := 77) F dJ6_numberOfTrailingZeros_0f7a4_77 ?_
            refine v_iadd (pc := 78) F dJ6_numberOfTrailingZeros_0f7a4_78 ?_
            refine v_ireturn (pc := 79) F dJ6_numberOfTrailingZeros_0f7a4_79 (rfl) ?_
            refine ⟨?_, rfl⟩
            unfold jntz jt0
            try unfold jt1
            try unfold jt2
            try unfold jt3
            try unfold jt4
            try unfold ju
            simp only [h9_1, h23_2, h38_3, h52_4, h64_6, ↓reduceIte]
            all_goals first | done | rfl
          · skip
            refine v_iinc (pc := 67) (i := 1) (v := ((nI 1 + Int32.ofInt (4)) + Int32.ofInt (2))) (lo' := [some (.int _), some (.int _)]) F dJ6_numberOfTrailingZeros_0f7a4_67 rfl (rfl) rfl rfl ?_
            refine v_iload_n (pc := 70) (i := 0) F dJ6_numberOfTrailingZeros_0f7a4_70 rfl rfl ?_
            refine v_iconst (pc := 71) (v := nI 2) F dJ6_numberOfTrailingZeros_0f7a4_71 (by decide) ?_
            refine v_iushr (pc := 72) F dJ6_numberOfTrailingZeros_0f7a4_72 ?_
            refine v_istore_n (pc := 73) (lo' := [some (.int _), some (.int _)]) F dJ6_numberOfTrailingZeros_0f7a4_73 rfl rfl (Nat.le_of_ble_eq_true rfl) rfl ?_
            refine v_iload_n (pc := 74) (i := 1) F dJ6_numberOfTrailingZeros_0f7a4_74 rfl rfl ?_
            refine v_iload_n (pc := 75) (i := 0) F dJ6_numberOfTrailingZeros_0f7a4_75 rfl rfl ?_
            refine v_iconst (pc := 76) (v := nI 1) F dJ6_numberOfTrailingZeros_0f7a4_76 (by decide) ?_
            refine v_iushr (pc := 77) F dJ6_numberOfTrailingZeros_0f7a4_77 ?_
            refine v_iadd (pc := 78) F dJ6_numberOfTrailingZeros_0f7a4_78 ?_
            refine v_ireturn (pc := 79) F dJ6_numberOfTrailingZeros_0f7a4_79 (rfl) ?_
            refine ⟨?_, rfl⟩
            unfold jntz jt0
            try unfold jt1
            try unfold jt2
            try unfold jt3
            try unfold jt4
            try unfold ju
            simp only [h9_1, h23_2, h38_3, h52_4, h64_6, ↓reduceIte]
            all_goals first | done | rfl
      · skip
        refine v_iinc (pc := 41) (i := 1) (v := (nI 1 + Int32.ofInt (8))) (lo' := [some (.int _), some (.int _)]) F dJ6_numberOfTrailingZeros_0f7a4_41 rfl (rfl) rfl rfl ?_
        refine v_iload_n (pc := 44) (i := 0) F dJ6_numberOfTrailingZeros_0f7a4_44 rfl rfl ?_
        refine v_bipush (pc := 45) (v := nI 8) F dJ6_numberOfTrailingZeros_0f7a4_45 (by decide) ?_
        refine v_iushr (pc := 47) F dJ6_numberOfTrailingZeros_0f7a4_47 ?_
        refine v_istore_n (pc := 48) (lo' := [some (.int _), some (.int _)]) F dJ6_numberOfTrailingZeros_0f7a4_48 rfl rfl (Nat.le_of_ble_eq_true rfl) rfl ?_
        refine v_iload_n (pc := 49) (i := 0) F dJ6_numberOfTrailingZeros_0f7a4_49 rfl rfl ?_
        refine v_bipush (pc := 50) (v := nI 16) F dJ6_numberOfTrailingZeros_0f7a4_50 (by decide) ?_
        refine v_icmp_le (pc := 52) (tgt := 62) F dJ6_numberOfTrailingZeros_0f7a4_52 (by decide) (fun h52_7 => ?_) (fun h52_7 => ?_)
        · skip
          refine v_iload_n (pc := 62) (i := 0) F dJ6_numberOfTrailingZeros_0f7a4_62 rfl rfl ?_
          refine v_iconst (pc := 63) (v := nI 4) F dJ6_numberOfTrailingZeros_0f7a4_63 (by decide) ?_
          refine v_icmp_le (pc := 64) (tgt := 74) F dJ6_numberOfTrailingZeros_0f7a4_64 (by decide) (fun h64_8 => ?_) (fun h64_8 => ?_)
          · skip
            refine v_iload_n (pc := 74) (i := 1) F dJ6_numberOfTrailingZeros_0f7a4_74 rfl rfl ?_
            refine v_iload_n (pc := 75) (i := 0) F dJ6_numberOfTrailingZeros_0f7a4_75 rfl rfl ?_
            refine v_iconst (pc := 76) (v := nI 1) F dJ6_numberOfTrailingZeros_0f7a4_76 (by decide) ?_
            refine v_iushr (pc := 77) F dJ6_numberOfTrailingZeros_0f7a4_77 ?_
            refine v_iadd (pc := 78) F dJ6_numberOfTrailingZeros_0f7a4_78 ?_
            refine v_ireturn (pc := 79) F dJ6_numberOfTrailingZeros_0f7a4_79 (rfl) ?_
            refine ⟨?_, rfl⟩
            unfold jntz jt0
            try unfold jt1
            try unfold jt2
            try unfold jt3
            try unfold jt4
            try unfold ju
            simp only [h9_1, h23_2, h38_3, h52_7, h64_8, ↓reduceIte]
            all_goals first | done | rfl
          · skip
            refine v_iinc (pc := 67) (i := 1) (v := ((nI 1 + Int32.ofInt (8)) + Int32.ofInt (2))) (lo' := [some (.int _), some (.int _)]) F dJ6_numberOfTrailingZeros_0f7a4_67 rfl (rfl) rfl rfl ?_
            refine v_iload_n (pc := 70) (i := 0) F dJ6_numberOfTrailingZeros_0f7a4_70 rfl rfl ?_
            refine v_iconst (pc := 71) (v := nI 2) F dJ6_numberOfTrailingZeros_0f7a4_71 (by decide) ?_
            refine v_iushr (pc := 72) F dJ6_numberOfTrailingZeros_0f7a4_72 ?_
            refine v_istore_n (pc := 73) (lo' := [some (.int _), some (.int _)]) F dJ6_numberOfTrailingZeros_0f7a4_73 rfl rfl (Nat.le_of_ble_eq_true rfl) rfl ?_
            refine v_iload_n (pc := 74) (i := 1) F dJ6_numberOfTrailingZeros_0f7a4_74 rfl rfl ?_
            refine v_iload_n (pc := 75) (i := 0) F dJ6_numberOfTrailingZeros_0f7a4_75 rfl rfl ?_
            refine v_iconst (pc := 76) (v := nI 1) F dJ6_numberOfTrailingZeros_0f7a4_76 (by decide) ?_
            refine v_iushr (pc := 77) F dJ6_numberOfTrailingZeros_0f7a4_77 ?_
            refine v_iadd (pc := 78) F dJ6_numberOfTrailingZeros_0f7a4_78 ?_
            refine v_ireturn (pc := 79) F dJ6_numberOfTrailingZeros_0f7a4_79 (rfl) ?_
            refine ⟨?_, rfl⟩
            unfold jntz jt0
            try unfold jt1
            try unfold jt2
            try unfold jt3
            try unfold jt4
            try unfold ju
            simp only [h9_1, h23_2, h38_3, h52_7, h64_8, ↓reduceIte]
            all_goals first | done | rfl
        · skip
          refine v_iinc (pc := 55) (i := 1) (v := ((nI 1 + Int32.ofInt (8)) + Int32.ofInt (4))) (lo' := [some (.int _), some (.int _)]) F dJ6_numberOfTrailingZeros_0f7a4_55 rfl (rfl) rfl rfl ?_
          refine v_iload_n (pc := 58) (i := 0) F dJ6_numberOfTrailingZeros_0f7a4_58 rfl rfl ?_
          refine v_iconst (pc := 59) (v := nI 4) F dJ6_numberOfTrailingZeros_0f7a4_59 (by decide) ?_
          refine v_iushr (pc := 60) F dJ6_numberOfTrailingZeros_0f7a4_60 ?_
          refine v_istore_n (pc := 61) (lo' := [some (.int _), some (.int _)]) F dJ6_numberOfTrailingZeros_0f7a4_61 rfl rfl (Nat.le_of_ble_eq_true rfl) rfl ?_
          refine v_iload_n (pc := 62) (i := 0) F dJ6_numberOfTrailingZeros_0f7a4_62 rfl rfl ?_
          refine v_iconst (pc := 63) (v := nI 4) F dJ6_numberOfTrailingZeros_0f7a4_63 (by decide) ?_
          refine v_icmp_le (pc := 64) (tgt := 74) F dJ6_numberOfTrailingZeros_0f7a4_64 (by decide) (fun h64_9 => ?_) (fun h64_9 => ?_)
          · skip
            refine v_iload_n (pc := 74) (i := 1) F dJ6_numberOfTrailingZeros_0f7a4_74 rfl rfl ?_
            refine v_iload_n (pc := 75) (i := 0) F dJ6_numberOfTrailingZeros_0f7a4_75 rfl rfl ?_
            refine v_iconst (pc := 76) (v := nI 1) F dJ6_numberOfTrailingZeros_0f7a4_76 (by decide) ?_
            refine v_iushr (pc := 77) F dJ6_numberOfTrailingZeros_0f7a4_77 ?_
            refine v_iadd (pc := 78) F dJ6_numberOfTrailingZeros_0f7a4_78 ?_
            refine v_ireturn (pc := 79) F dJ6_numberOfTrailingZeros_0f7a4_79 (rfl) ?_
            refine ⟨?_, rfl⟩
            unfold jntz jt0
            try unfold jt1
            try unfold jt2
            try unfold jt3
            try unfold jt4
            try unfold ju
            simp only [h9_1, h23_2, h38_3, h52_7, h64_9, ↓reduceIte]
            all_goals first | done | rfl
          · skip
            refine v_iinc (pc := 67) (i := 1) (v := (((nI 1 + Int32.ofInt (8)) + Int32.ofInt (4)) + Int32.ofInt (2))) (lo' := [some (.int _), some (.int _)]) F dJ6_numberOfTrailingZeros_0f7a4_67 rfl (rfl) rfl rfl ?_
            refine v_iload_n (pc := 70) (i := 0) F dJ6_numberOfTrailingZeros_0f7a4_70 rfl rfl ?_
            refine v_iconst (pc := 71) (v := nI 2) F dJ6_numberOfTrailingZeros_0f7a4_71 (by decide) ?_
            refine v_iushr (pc := 72) F dJ6_numberOfTrailingZeros_0f7a4_72 ?_
            refine v_istore_n (pc := 73) (lo' := [some (.int _), some (.int _)]) F dJ6_numberOfTrailingZeros_0f7a4_73 rfl rfl (Nat.le_of_ble_eq_true rfl) rfl ?_
            refine v_iload_n (pc := 74) (i := 1) F dJ6_numberOfTrailingZeros_0f7a4_74 rfl rfl ?_
            refine v_iload_n (pc := 75) (i := 0) F dJ6_numberOfTrailingZeros_0f7a4_75 rfl rfl ?_
            refine v_iconst (pc := 76) (v := nI 1) F dJ6_numberOfTrailingZeros_0f7a4_76 (by decide) ?_
            refine v_iushr (pc := 77) F dJ6_numberOfTrailingZeros_0f7a4_77 ?_
            refine v_iadd (pc := 78) F dJ6_numberOfTrailingZeros_0f7a4_78 ?_
            refine v_ireturn (pc := 79) F dJ6_numberOfTrailingZeros_0f7a4_79 (rfl) ?_
            refine ⟨?_, rfl⟩
            unfold jntz jt0
            try unfold jt1
            try unfold jt2
            try unfold jt3
            try unfold jt4
            try unfold ju
            simp only [h9_1, h23_2, h38_3, h52_7, h64_9, ↓reduceIte]
            all_goals first | done | rfl
    · skip
      refine v_iinc (pc := 26) (i := 1) (v := (nI 1 + Int32.ofInt (16))) (lo' := [some (.int _), some (.int _)]) F dJ6_numberOfTrailingZeros_0f7a4_26 rfl (rfl) rfl rfl ?_
      refine v_iload_n (pc := 29) (i := 0) F dJ6_numberOfTrailingZeros_0f7a4_29 rfl rfl ?_
      refine v_bipush (pc := 30) (v := nI 16) F dJ6_numberOfTrailingZeros_0f7a4_30 (by decide) ?_
      refine v_iushr (pc := 32) F dJ6_numberOfTrailingZeros_0f7a4_32 ?_
      refine v_istore_n (pc := 33) (lo' := [some (.int _), some (.int _)]) F dJ6_numberOfTrailingZeros_0f7a4_33 rfl rfl (Nat.le_of_ble_eq_true rfl) rfl ?_
      refine v_iload_n (pc := 34) (i := 0) F dJ6_numberOfTrailingZeros_0f7a4_34 rfl rfl ?_
      refine v_sipush (pc := 35) (v := nI 256) F dJ6_numberOfTrailingZeros_0f7a4_35 (by decide) ?_
      refine v_icmp_le (pc := 38) (tgt := 49) F dJ6_numberOfTrailingZeros_0f7a4_38 (by decide) (fun h38_10 => ?_) (fun h38_10 => ?_)
      · skip
        refine v_iload_n (pc := 49) (i := 0) F dJ6_numberOfTrailingZeros_0f7a4_49 rfl rfl ?_
        refine v_bipush (pc := 50) (v := nI 16) F dJ6_numberOfTrailingZeros_0f7a4_50 (by decide) ?_
        refine v_icmp_le (pc := 52) (tgt := 62) F dJ6_numberOfTrailingZeros_0f7a4_52 (by decide) (fun h52_11 => ?_) (fun h52_11 => ?_)
        · skip
          refine v_iload_n (pc := 62) (i := 0) F dJ6_numberOfTrailingZeros_0f7a4_62 rfl rfl ?_
          refine v_iconst (pc := 63) (v := nI 4) F dJ6_numberOfTrailingZeros_0f7a4_63 (by decide) ?_
          refine v_icmp_le (pc := 64) (tgt := 74) F dJ6_numberOfTrailingZeros_0f7a4_64 (by decide) (fun h64_12 => ?_) (fun h64_12 => ?_)
          · skip
            refine v_iload_n (pc := 74) (i := 1) F dJ6_numberOfTrailingZeros_0f7a4_74 rfl rfl ?_
            refine v_iload_n (pc := 75) (i := 0) F dJ6_numberOfTrailingZeros_0f7a4_75 rfl rfl ?_
            refine v_iconst (pc := 76) (v := nI 1) F dJ6_numberOfTrailingZeros_0f7a4_76 (by decide) ?_
            refine v_iushr (pc := 77) F dJ6_numberOfTrailingZeros_0f7a4_77 ?_
            refine v_iadd (pc := 78) F dJ6_numberOfTrailingZeros_0f7a4_78 ?_
            refine v_ireturn (pc := 79) F dJ6_numberOfTrailingZeros_0f7a4_79 (rfl) ?_
            refine ⟨?_, rfl⟩
            unfold jntz jt0
            try unfold jt1
            try unfold jt2
            try unfold jt3
            try unfold jt4
            try unfold ju
            simp only [h9_1, h23_2, h38_10, h52_11, h64_12, ↓reduceIte]
            all_goals first | done | rfl
          · skip
            refine v_iinc (pc := 67) (i := 1) (v := ((nI 1 + Int32.ofInt (16)) + Int32.ofInt (2))) (lo' := [some (.int _), some (.int _)]) F dJ6_numberOfTrailingZeros_0f7a4_67 rfl (rfl) rfl rfl ?_
            refine v_iload_n (pc := 70) (i := 0) F dJ6_numberOfTrailingZeros_0f7a4_70 rfl rfl ?_
            refine v_iconst (pc := 71) (v := nI 2) F dJ6_numberOfTrailingZeros_0f7a4_71 (by decide) ?_
            refine v_iushr (pc := 72) F dJ6_numberOfTrailingZeros_0f7a4_72 ?_
            refine v_istore_n (pc := 73) (lo' := [some (.int _), some (.int _)]) F dJ6_numberOfTrailingZeros_0f7a4_73 rfl rfl (Nat.le_of_ble_eq_true rfl) rfl ?_
            refine v_iload_n (pc := 74) (i := 1) F dJ6_numberOfTrailingZeros_0f7a4_74 rfl rfl ?_
            refine v_iload_n (pc := 75) (i := 0) F dJ6_numberOfTrailingZeros_0f7a4_75 rfl rfl ?_
            refine v_iconst (pc := 76) (v := nI 1) F dJ6_numberOfTrailingZeros_0f7a4_76 (by decide) ?_
            refine v_iushr (pc := 77) F dJ6_numberOfTrailingZeros_0f7a4_77 ?_
            refine v_iadd (pc := 78) F dJ6_numberOfTrailingZeros_0f7a4_78 ?_
            refine v_ireturn (pc := 79) F dJ6_numberOfTrailingZeros_0f7a4_79 (rfl) ?_
            refine ⟨?_, rfl⟩
            unfold jntz jt0
            try unfold jt1
            try unfold jt2
            try unfold jt3
            try unfold jt4
            try unfold ju
            simp only [h9_1, h23_2, h38_10, h52_11, h64_12, ↓reduceIte]
            all_goals first | done | rfl
        · skip
          refine v_iinc (pc := 55) (i := 1) (v := ((nI 1 + Int32.ofInt (16)) + Int32.ofInt (4))) (lo' := [some (.int _), some (.int _)]) F dJ6_numberOfTrailingZeros_0f7a4_55 rfl (rfl) rfl rfl ?_
          refine v_iload_n (pc := 58) (i := 0) F dJ6_numberOfTrailingZeros_0f7a4_58 rfl rfl ?_
          refine v_iconst (pc := 59) (v := nI 4) F dJ6_numberOfTrailingZeros_0f7a4_59 (by decide) ?_
          refine v_iushr (pc := 60) F dJ6_numberOfTrailingZeros_0f7a4_60 ?_
          refine v_istore_n (pc := 61) (lo' := [some (.int _), some (.int _)]) F dJ6_numberOfTrailingZeros_0f7a4_61 rfl rfl (Nat.le_of_ble_eq_true rfl) rfl ?_
          refine v_iload_n (pc := 62) (i := 0) F dJ6_numberOfTrailingZeros_0f7a4_62 rfl rfl ?_
          refine v_iconst (pc := 63) (v := nI 4) F dJ6_numberOfTrailingZeros_0f7a4_63 (by decide) ?_
          refine v_icmp_le (pc := 64) (tgt := 74) F dJ6_numberOfTrailingZeros_0f7a4_64 (by decide) (fun h64_13 => ?_) (fun h64_13 => ?_)
          · skip
            refine v_iload_n (pc := 74) (i := 1) F dJ6_numberOfTrailingZeros_0f7a4_74 rfl rfl ?_
            refine v_iload_n (pc := 75) (i := 0) F dJ6_numberOfTrailingZeros_0f7a4_75 rfl rfl ?_
            refine v_iconst (pc := 76) (v := nI 1) F dJ6_numberOfTrailingZeros_0f7a4_76 (by decide) ?_
            refine v_iushr (pc := 77) F dJ6_numberOfTrailingZeros_0f7a4_77 ?_
            refine v_iadd (pc := 78) F dJ6_numberOfTrailingZeros_0f7a4_78 ?_
            refine v_ireturn (pc := 79) F dJ6_numberOfTrailingZeros_0f7a4_79 (rfl) ?_
            refine ⟨?_, rfl⟩
            unfold jntz jt0
            try unfold jt1
            try unfold jt2
            try unfold jt3
            try unfold jt4
            try unfold ju
            simp only [h9_1, h23_2, h38_10, h52_11, h64_13, ↓reduceIte]
            all_goals first | done | rfl
          · skip
            refine v_iinc (pc := 67) (i := 1) (v := (((nI 1 + Int32.ofInt (16)) + Int32.ofInt (4)) + Int32.ofInt (2))) (lo' := [some (.int _), some (.int _)]) F dJ6_numberOfTrailingZeros_0f7a4_67 rfl (rfl) rfl rfl ?_
            refine v_iload_n (pc := 70) (i := 0) F dJ6_numberOfTrailingZeros_0f7a4_70 rfl rfl ?_
            refine v_iconst (pc := 71) (v := nI 2) F dJ6_numberOfTrailingZeros_0f7a4_71 (by decide) ?_
            refine v_iushr (pc := 72) F dJ6_numberOfTrailingZeros_0f7a4_72 ?_
            refine v_istore_n (pc := 73) (lo' := [some (.int _), some (.int _)]) F dJ6_numberOfTrailingZeros_0f7a4_73 rfl rfl (Nat.le_of_ble_eq_true rfl) rfl ?_
            refine v_iload_n (pc := 74) (i := 1) F dJ6_numberOfTrailingZeros_0f7a4_74 rfl rfl ?_
            refine v_iload_n (pc := 75) (i := 0) F dJ6_numberOfTrailingZeros_0f7a4_75 rfl rfl ?_
            refine v_iconst (pc := 76) (v := nI 1) F dJ6_numberOfTrailingZeros_0f7a4_76 (by decide) ?_
            refine v_iushr (pc := 77) F dJ6_numberOfTrailingZeros_0f7a4_77 ?_
            refine v_iadd (pc := 78) F dJ6_numberOfTrailingZeros_0f7a4_78 ?_
            refine v_ireturn (pc := 79) F dJ6_numberOfTrailingZeros_0f7a4_79 (rfl) ?_
            refine ⟨?_, rfl⟩
            unfold jntz jt0
            try unfold jt1
            try unfold jt2
            try unfold jt3
            try unfold jt4
            try unfold ju
            simp only [h9_1, h23_2, h38_10, h52_11, h64_13, ↓reduceIte]
            all_goals first | done | rfl
      · skip
        refine v_iinc (pc := 41) (i := 1) (v := ((nI 1 + Int32.ofInt (16)) + Int32.ofInt (8))) (lo' := [some (.int _), some (.int _)]) F dJ6_numberOfTrailingZeros_0f7a4_41 rfl (rfl) rfl rfl ?_
        refine v_iload_n (pc := 44) (i := 0) F dJ6_numberOfTrailingZeros_0f7a4_44 rfl rfl ?_
        refine v_bipush (pc := 45) (v := nI 8) F dJ6_numberOfTrailingZeros_0f7a4_45 (by decide) ?_
        refine v_iushr (pc := 47) F dJ6_numberOfTrailingZeros_0f7a4_47 ?_
        refine v_istore_n (pc := 48) (lo' := [some (.int _), some (.int _)]) F dJ6_numberOfTrailingZeros_0f7a4_48 rfl rfl (Nat.le_of_ble_eq_true rfl) rfl ?_
        refine v_iload_n (pc := 49) (i := 0) F dJ6_numberOfTrailingZeros_0f7a4_49 rfl rfl ?_
        refine v_bipush (pc := 50) (v := nI 16) F dJ6_numberOfTrailingZeros_0f7a4_50 (by decide) ?_
        refine v_icmp_le (pc := 52) (tgt := 62) F dJ6_numberOfTrailingZeros_0f7a4_52 (by decide) (fun h52_14 => ?_) (fun h52_14 => ?_)
        · skip
          refine v_iload_n (pc := 62) (i := 0) F dJ6_numberOfTrailingZeros_0f7a4_62 rfl rfl ?_
          refine v_iconst (pc := 63) (v := nI 4) F dJ6_numberOfTrailingZeros_0f7a4_63 (by decide) ?_
          refine v_icmp_le (pc := 64) (tgt := 74) F dJ6_numberOfTrailingZeros_0f7a4_64 (by decide) (fun h64_15 => ?_) (fun h64_15 => ?_)
          · skip
            refine v_iload_n (pc := 74) (i := 1) F dJ6_numberOfTrailingZeros_0f7a4_74 rfl rfl ?_
            refine v_iload_n (pc := 75) (i := 0) F dJ6_numberOfTrailingZeros_0f7a4_75 rfl rfl ?_
            refine v_iconst (pc := 76) (v := nI 1) F dJ6_numberOfTrailingZeros_0f7a4_76 (by decide) ?_
            refine v_iushr (pc := 77) F dJ6_numberOfTrailingZeros_0f7a4_77 ?_
            refine v_iadd (pc := 78) F dJ6_numberOfTrailingZeros_0f7a4_78 ?_
            refine v_ireturn (pc := 79) F dJ6_numberOfTrailingZeros_0f7a4_79 (rfl) ?_
            refine ⟨?_, rfl⟩
            unfold jntz jt0
            try unfold jt1
            try unfold jt2
            try unfold jt3
            try unfold jt4
            try unfold ju
            simp only [h9_1, h23_2, h38_10, h52_14, h64_15, ↓reduceIte]
            all_goals first | done | rfl
          · skip
            refine v_iinc (pc := 67) (i := 1) (v := (((nI 1 + Int32.ofInt (16)) + Int32.ofInt (8)) + Int32.ofInt (2))) (lo' := [some (.int _), some (.int _)]) F dJ6_numberOfTrailingZeros_0f7a4_67 rfl (rfl) rfl rfl ?_
            refine v_iload_n (pc := 70) (i := 0) F dJ6_numberOfTrailingZeros_0f7a4_70 rfl rfl ?_
            refine v_iconst (pc := 71) (v := nI 2) F dJ6_numberOfTrailingZeros_0f7a4_71 (by decide) ?_
            refine v_iushr (pc := 72) F dJ6_numberOfTrailingZeros_0f7a4_72 ?_
            refine v_istore_n (pc := 73) (lo' := [some (.int _), some (.int _)]) F dJ6_numberOfTrailingZeros_0f7a4_73 rfl rfl (Nat.le_of_ble_eq_true rfl) rfl ?_
            refine v_iload_n (pc := 74) (i := 1) F dJ6_numberOfTrailingZeros_0f7a4_74 rfl rfl ?_
            refine v_iload_n (pc := 75) (i := 0) F dJ6_numberOfTrailingZeros_0f7a4_75 rfl rfl ?_
            refine v_iconst (pc := 76) (v := nI 1) F dJ6_numberOfTrailingZeros_0f7a4_76 (by decide) ?_
            refine v_iushr (pc := 77) F dJ6_numberOfTrailingZeros_0f7a4_77 ?_
            refine v_iadd (pc := 78) F dJ6_numberOfTrailingZeros_0f7a4_78 ?_
            refine v_ireturn (pc := 79) F dJ6_numberOfTrailingZeros_0f7a4_79 (rfl) ?_
            refine ⟨?_, rfl⟩
            unfold jntz jt0
            try unfold jt1
            try unfold jt2
            try unfold jt3
            try unfold jt4
            try unfold ju
            simp only [h9_1, h23_2, h38_10, h52_14, h64_15, ↓reduceIte]
            all_goals first | done | rfl
        · skip
          refine v_iinc (pc := 55) (i := 1) (v := (((nI 1 + Int32.ofInt (16)) + Int32.ofInt (8)) + Int32.ofInt (4))) (lo' := [some (.int _), some (.int _)]) F dJ6_numberOfTrailingZeros_0f7a4_55 rfl (rfl) rfl rfl ?_
          refine v_iload_n (pc := 58) (i := 0) F dJ6_numberOfTrailingZeros_0f7a4_58 rfl rfl ?_
          refine v_iconst (pc := 59) (v := nI 4) F dJ6_numberOfTrailingZeros_0f7a4_59 (by decide) ?_
          refine v_iushr (pc := 60) F dJ6_numberOfTrailingZeros_0f7a4_60 ?_
          refine v_istore_n (pc := 61) (lo' := [some (.int _), some (.int _)]) F dJ6_numberOfTrailingZeros_0f7a4_61 rfl rfl (Nat.le_of_ble_eq_true rfl) rfl ?_
          refine v_iload_n (pc := 62) (i := 0) F dJ6_numberOfTrailingZeros_0f7a4_62 rfl rfl ?_
          refine v_iconst (pc := 63) (v := nI 4) F dJ6_numberOfTrailingZeros_0f7a4_63 (by decide) ?_
          refine v_icmp_le (pc := 64) (tgt := 74) F dJ6_numberOfTrailingZeros_0f7a4_64 (by decide) (fun h64_16 => ?_) (fun h64_16 => ?_)
          · skip
            refine v_iload_n (pc := 74) (i := 1) F dJ6_numberOfTrailingZeros_0f7a4_74 rfl rfl ?_
            refine v_iload_n (pc := 75) (i := 0) F dJ6_numberOfTrailingZeros_0f7a4_75 rfl rfl ?_
            refine v_iconst (pc := 76) (v := nI 1) F dJ6_numberOfTrailingZeros_0f7a4_76 (by decide) ?_
            refine v_iushr (pc := 77) F dJ6_numberOfTrailingZeros_0f7a4_77 ?_
            refine v_iadd (pc := 78) F dJ6_numberOfTrailingZeros_0f7a4_78 ?_
            refine v_ireturn (pc := 79) F dJ6_numberOfTrailingZeros_0f7a4_79 (rfl) ?_
            refine ⟨?_, rfl⟩
            unfold jntz jt0
            try unfold jt1
            try unfold jt2
            try unfold jt3
            try unfold jt4
            try unfold ju
            simp only [h9_1, h23_2, h38_10, h52_14, h64_16, ↓reduceIte]
            all_goals first | done | rfl
          · skip
            refine v_iinc (pc := 67) (i := 1) (v := ((((nI 1 + Int32.ofInt (16)) + Int32.ofInt (8)) + Int32.ofInt (4)) + Int32.ofInt (2))) (lo' := [some (.int _), some (.int _)]) F dJ6_numberOfTrailingZeros_0f7a4_67 rfl (rfl) rfl rfl ?_
            refine v_iload_n (pc := 70) (i := 0) F dJ6_numberOfTrailingZeros_0f7a4_70 rfl rfl ?_
            refine v_iconst (pc := 71) (v := nI 2) F dJ6_numberOfTrailingZeros_0f7a4_71 (by decide) ?_
            refine v_iushr (pc := 72) F dJ6_numberOfTrailingZeros_0f7a4_72 ?_
            refine v_istore_n (pc := 73) (lo' := [some (.int _), some (.int _)]) F dJ6_numberOfTrailingZeros_0f7a4_73 rfl rfl (Nat.le_of_ble_eq_true rfl) rfl ?_
            refine v_iload_n (pc := 74) (i := 1) F dJ6_numberOfTrailingZeros_0f7a4_74 rfl rfl ?_
            refine v_iload_n (pc := 75) (i := 0) F dJ6_numberOfTrailingZeros_0f7a4_75 rfl rfl ?_
            refine v_iconst (pc := 76) (v := nI 1) F dJ6_numberOfTrailingZeros_0f7a4_76 (by decide) ?_
            refine v_iushr (pc := 77) F dJ6_numberOfTrailingZeros_0f7a4_77 ?_
            refine v_iadd (pc := 78) F dJ6_numberOfTrailingZeros_0f7a4_78 ?_
            refine v_ireturn (pc := 79) F dJ6_numberOfTrailingZeros_0f7a4_79 (rfl) ?_
            refine ⟨?_, rfl⟩
            unfold jntz jt0
            try unfold jt1
            try unfold jt2
            try unfold jt3
            try unfold jt4
            try unfold ju
            simp only [h9_1, h23_2, h38_10, h52_14, h64_16, ↓reduceIte]
            all_goals first | done | rfl
  · skip
    refine v_iload_n (pc := 12) (i := 0) F dJ6_numberOfTrailingZeros_0f7a4_12 rfl rfl ?_
    refine v_bipush (pc := 13) (v := nI 32) F dJ6_numberOfTrailingZeros_0f7a4_13 (by decide) ?_
    refine v_iand (pc := 15) F dJ6_numberOfTrailingZeros_0f7a4_15 ?_
    refine v_ireturn (pc := 16) F dJ6_numberOfTrailingZeros_0f7a4_16 (rfl) ?_
    refine ⟨?_, rfl⟩
    unfold jntz jt0
    try unfold jt1
    try unfold jt2
    try unfold jt3
    try unfold jt4
    try unfold ju
    simp only [h9_1, ↓reduceIte]
    all_goals first | done | rfl

set_option maxRecDepth 100000 in
theorem c_J6_bc (Λ : j_L) (i : Int32) (μ : j_M) : Ct yJ6_bitCount_0f7a4 cJ6_bitCount_0f7a4 1 (some .int) 0 Λ [.int i] μ (pI fun r μ2 => r = (jbc i) ∧ μ2 = μ) := by
  refine Ct.go (lo := [some (.int i)]) (by decide) (Nat.le_of_ble_eq_true rfl) rfl rfl (fun X F => ?_)
  have F : Fx X cJ6_bitCount_0f7a4 RJ6 0 (some .int) Λ := F
  refine v_iload_n (pc := 0) (i := 0) F dJ6_bitCount_0f7a4_0 rfl rfl ?_
  refine v_iload_n (pc := 1) (i := 0) F dJ6_bitCount_0f7a4_1 rfl rfl ?_
  refine v_iconst (pc := 2) (v := nI 1) F dJ6_bitCount_0f7a4_2 (by decide) ?_
  refine v_iushr (pc := 3) F dJ6_bitCount_0f7a4_3 ?_
  refine v_ldcw (pc := 4) F dJ6_bitCount_0f7a4_4 kcJ6_265 ?_
  refine v_iand (pc := 7) F dJ6_bitCount_0f7a4_7 ?_
  refine v_isub (pc := 8) F dJ6_bitCount_0f7a4_8 ?_
  refine v_istore_n (pc := 9) (lo' := [some (.int _)]) F dJ6_bitCount_0f7a4_9 rfl rfl (Nat.le_of_ble_eq_true rfl) rfl ?_
  refine v_iload_n (pc := 10) (i := 0) F dJ6_bitCount_0f7a4_10 rfl rfl ?_
  refine v_ldcw (pc := 11) F dJ6_bitCount_0f7a4_11 kcJ6_266 ?_
  refine v_iand (pc := 14) F dJ6_bitCount_0f7a4_14 ?_
  refine v_iload_n (pc := 15) (i := 0) F dJ6_bitCount_0f7a4_15 rfl rfl ?_
  refine v_iconst (pc := 16) (v := nI 2) F dJ6_bitCount_0f7a4_16 (by decide) ?_
  refine v_iushr (pc := 17) F dJ6_bitCount_0f7a4_17 ?_
  refine v_ldcw (pc := 18) F dJ6_bitCount_0f7a4_18 kcJ6_266 ?_
  refine v_iand (pc := 21) F dJ6_bitCount_0f7a4_21 ?_
  refine v_iadd (pc := 22) F dJ6_bitCount_0f7a4_22 ?_
  refine v_istore_n (pc := 23) (lo' := [some (.int _)]) F dJ6_bitCount_0f7a4_23 rfl rfl (Nat.le_of_ble_eq_true rfl) rfl ?_
  refine v_iload_n (pc := 24) (i := 0) F dJ6_bitCount_0f7a4_24 rfl rfl ?_
  refine v_iload_n (pc := 25) (i := 0) F dJ6_bitCount_0f7a4_25 rfl rfl ?_
  refine v_iconst (pc := 26) (v := nI 4) F dJ6_bitCount_0f7a4_26 (by decide) ?_
  refine v_iushr (pc := 27) F dJ6_bitCount_0f7a4_27 ?_
  refine v_iadd (pc := 28) F dJ6_bitCount_0f7a4_28 ?_
  refine v_ldcw (pc := 29) F dJ6_bitCount_0f7a4_29 kcJ6_267 ?_
  refine v_iand (pc := 32) F dJ6_bitCount_0f7a4_32 ?_
  refine v_istore_n (pc := 33) (lo' := [some (.int _)]) F dJ6_bitCount_0f7a4_33 rfl rfl (Nat.le_of_ble_eq_true rfl) rfl ?_
  refine v_iload_n (pc := 34) (i := 0) F dJ6_bitCount_0f7a4_34 rfl rfl ?_
  refine v_iload_n (pc := 35) (i := 0) F dJ6_bitCount_0f7a4_35 rfl rfl ?_
  refine v_bipush (pc := 36) (v := nI 8) F dJ6_bitCount_0f7a4_36 (by decide) ?_
  refine v_iushr (pc := 38) F dJ6_bitCount_0f7a4_38 ?_
  refine v_iadd (pc := 39) F dJ6_bitCount_0f7a4_39 ?_
  refine v_istore_n (pc := 40) (lo' := [some (.int _)]) F dJ6_bitCount_0f7a4_40 rfl rfl (Nat.le_of_ble_eq_true rfl) rfl ?_
  refine v_iload_n (pc := 41) (i := 0) F dJ6_bitCount_0f7a4_41 rfl rfl ?_
  refine v_iload_n (pc := 42) (i := 0) F dJ6_bitCount_0f7a4_42 rfl rfl ?_
  refine v_bipush (pc := 43) (v := nI 16) F dJ6_bitCount_0f7a4_43 (by decide) ?_
  refine v_iushr (pc := 45) F dJ6_bitCount_0f7a4_45 ?_
  refine v_iadd (pc := 46) F dJ6_bitCount_0f7a4_46 ?_
  refine v_istore_n (pc := 47) (lo' := [some (.int _)]) F dJ6_bitCount_0f7a4_47 rfl rfl (Nat.le_of_ble_eq_true rfl) rfl ?_
  refine v_iload_n (pc := 48) (i := 0) F dJ6_bitCount_0f7a4_48 rfl rfl ?_
  refine v_bipush (pc := 49) (v := nI 63) F dJ6_bitCount_0f7a4_49 (by decide) ?_
  refine v_iand (pc := 51) F dJ6_bitCount_0f7a4_51 ?_
  refine v_ireturn (pc := 52) F dJ6_bitCount_0f7a4_52 (rfl) ?_
  exact ⟨rfl, rfl⟩

section mm
variable {X : j_X} {post : j_ps} {pc : Nat} {lo : j_lo} {μ : j_M} {cc : ByteArray} {own : String} {d : Nat} {rt : Option FieldType} {Λ : j_L} {st : List Value}
theorem v_mmax (F : Fx X cc own (d + 1) rt Λ) {idx : Nat} {x y : Int32} (hd : decode cc pc = .ok (.invokestatic idx, 3)) (hi : Cond.methodLink own idx yJ9_max_7cf53 ∈ j_gw) (hw : (st.map fun v => v.category).sum ≤ 8) (k : V X post (pc + 3) lo (.int (jmax x y) :: st) μ) : V X post pc lo (.int y :: .int x :: st) μ := by
  obtain ⟨p, l, e, R, s, m, args, below, meth, kc, G, Λ', nL⟩ := X
  obtain ⟨hx, hb, hml, hown, hts, hK, hlk, hok, rfl, hr, hL⟩ := F
  subst hL
  intro H locs ls hP hS hl
  refine va_mmax hx hb (by rw [hml]; exact hl.1.symm) hown (hts _ hi) (hts _ sm_J9_max_7cf53) (hts _ ni_J9) (hts _ cd_J9_max_7cf53) (Nat.le_add_left 1 d) ?_ (Nat.zero_le _) (Nat.zero_le _) hd (k H locs ls hP hS hl)
  rw [j_cz_sum]
  show _ ≤ 40 * (d + 1)
  omega
theorem v_mmin (F : Fx X cc own (d + 1) rt Λ) {idx : Nat} {x y : Int32} (hd : decode cc pc = .ok (.invokestatic idx, 3)) (hi : Cond.methodLink own idx yJ9_min_7cf53 ∈ j_gw) (hw : (st.map fun v => v.category).sum ≤ 8) (k : V X post (pc + 3) lo (.int (jmin x y) :: st) μ) : V X post pc lo (.int y :: .int x :: st) μ := by
  obtain ⟨p, l, e, R, s, m, args, below, meth, kc, G, Λ', nL⟩ := X
  obtain ⟨hx, hb, hml, hown, hts, hK, hlk, hok, rfl, hr, hL⟩ := F
  subst hL
  intro H locs ls hP hS hl
  refine va_mmin hx hb (by rw [hml]; exact hl.1.symm) hown (hts _ hi) (hts _ sm_J9_min_7cf53) (hts _ ni_J9) (hts _ cd_J9_min_7cf53) (Nat.le_add_left 1 d) ?_ (Nat.zero_le _) (Nat.zero_le _) hd (k H locs ls hP hS hl)
  rw [j_cz_sum]
  show _ ≤ 40 * (d + 1)
  omega
end mm

set_option maxRecDepth 100000 in
theorem c_J7_fillI (Λ : j_L) (a len : Nat) (ha : j_is Λ a 11 len) (hl : len < 2 ^ 31) (v : Int32) (μ : j_M) : Ct yJ7_fill_53178 cJ7_fill_53178 4 none 0 Λ [.ref a, .int v] μ (pV fun μ2 => μ2 = flI μ a len v) := by
  refine Ct.go (lo := [some (.ref a), some (.int v), none, none]) (by decide) (Nat.le_of_ble_eq_true rfl) rfl rfl (fun X F => ?_)
  have F : Fx X cJ7_fill_53178 RJ7 0 none Λ := F
  refine v_iconst (pc := 0) (v := nI 0) F dJ7_fill_53178_0 (by decide) ?_
  refine v_istore_n (pc := 1) (lo' := [some (.ref _), some (.int _), some (.int _), _]) F dJ7_fill_53178_1 rfl rfl (Nat.le_of_ble_eq_true rfl) rfl ?_
  refine v_aload_n (pc := 2) (i := 0) F dJ7_fill_53178_2 rfl rfl ?_
  refine v_alen (pc := 3) (kd := 11) F 0 dJ7_fill_53178_3 ha (by decide) (fun G => ⟨_, rfl⟩) ?_
  refine v_istore_n (pc := 4) (lo' := [some (.ref _), some (.int _), some (.int _), some (.int _)]) F dJ7_fill_53178_4 rfl rfl (Nat.le_of_ble_eq_true rfl) rfl ?_
  refine v_mem (flI_0 _ a v) ?_
  refine j_up len (fun i => V X _ 5 [some (.ref a), some (.int v), some (.int (nI i)), some (.int (nI len))] [] (flI μ a i v)) (fun i hi ih => ?_) 0 (Nat.zero_le _)
  refine v_iload_n (pc := 5) (i := 2) F dJ7_fill_53178_5 rfl rfl ?_
  refine v_iload_n (pc := 6) (i := 3) F dJ7_fill_53178_6 rfl rfl ?_
  refine v_icmp_ge (pc := 7) (tgt := 20) F dJ7_fill_53178_7 (by decide) (fun h7_1 => ?_) (fun h7_1 => ?_)
  · rw [nI_leI (by omega) (by omega)] at h7_1
    refine v_return (pc := 20) F dJ7_fill_53178_20 ?_
    have e : i = len := by omega
    subst e
    rfl
  · rw [nI_leI (by omega) (by omega)] at h7_1
    refine v_aload_n (pc := 10) (i := 0) F dJ7_fill_53178_10 rfl rfl ?_
    refine v_iload_n (pc := 11) (i := 2) F dJ7_fill_53178_11 rfl rfl ?_
    refine v_iload_n (pc := 12) (i := 1) F dJ7_fill_53178_12 rfl rfl ?_
    refine v_iastN (pc := 13) (k0 := i) F dJ7_fill_53178_13 ha (rfl) (by omega) (by omega) ?_
    refine v_iinc (pc := 14) (i := 2) (v := nI (i + 1)) (lo' := [some (.ref _), some (.int _), some (.int _), some (.int _)]) F dJ7_fill_53178_14 rfl (j_inc _) rfl rfl ?_
    refine v_goto (pc := 17) (tgt := 5) F dJ7_fill_53178_17 (by decide) ?_
    refine v_mem (flI_s _ _ _ _) (ih (by omega))

set_option maxRecDepth 100000 in
theorem c_J7_fillJ (Λ : j_L) (a len : Nat) (ha : j_is Λ a 12 len) (hl : len < 2 ^ 31) (v : Int64) (μ : j_M) : Ct yJ7_fill_d0a16 cJ7_fill_d0a16 5 none 0 Λ [.ref a, .long v] μ (pV fun μ2 => μ2 = flJ μ a len v) := by
  refine Ct.go (lo := [some (.ref a), some (.long v), none, none, none]) (by decide) (Nat.le_of_ble_eq_true rfl) rfl rfl (fun X F => ?_)
  have F : Fx X cJ7_fill_d0a16 RJ7 0 none Λ := F
  refine v_iconst (pc := 0) (v := nI 0) F dJ7_fill_d0a16_0 (by decide) ?_
  refine v_istore_n (pc := 1) (lo' := [some (.ref _), some (.long _), _, some (.int _), _]) F dJ7_fill_d0a16_1 rfl rfl (Nat.le_of_ble_eq_true rfl) rfl ?_
  refine v_aload_n (pc := 2) (i := 0) F dJ7_fill_d0a16_2 rfl rfl ?_
  refine v_alen (pc := 3) (kd := 12) F 1 dJ7_fill_d0a16_3 ha (by decide) (fun G => ⟨_, rfl⟩) ?_
  refine v_istore (pc := 4) (lo' := [some (.ref _), some (.long _), _, some (.int _), some (.int _)]) F dJ7_fill_d0a16_4 rfl (Nat.le_of_ble_eq_true rfl) rfl ?_
  refine v_mem (flJ_0 _ a v) ?_
  refine j_up len (fun i => V X _ 6 [some (.ref a), some (.long v), none, some (.int (nI i)), some (.int (nI len))] [] (flJ μ a i v)) (fun i hi ih => ?_) 0 (Nat.zero_le _)
  refine v_iload_n (pc := 6) (i := 3) F dJ7_fill_d0a16_6 rfl rfl ?_
  refine v_iload (pc := 7) (i := 4) F dJ7_fill_d0a16_7 rfl ?_
  refine v_icmp_ge (pc := 9) (tgt := 22) F dJ7_fill_d0a16_9 (by decide) (fun h9_1 => ?_) (fun h9_1 => ?_)
  · rw [nI_leI (by omega) (by omega)] at h9_1
    refine v_return (pc := 22) F dJ7_fill_d0a16_22 ?_
    have e : i = len := by omega
    subst e
    rfl
  · rw [nI_leI (by omega) (by omega)] at h9_1
    refine v_aload_n (pc := 12) (i := 0) F dJ7_fill_d0a16_12 rfl rfl ?_
    refine v_iload_n (pc := 13) (i := 3) F dJ7_fill_d0a16_13 rfl rfl ?_
    refine v_lload_n (pc := 14) (i := 1) F dJ7_fill_d0a16_14 rfl rfl ?_
    refine v_lastN (pc := 15) (k0 := i) F dJ7_fill_d0a16_15 ha (rfl) (by omega) (by omega) ?_
    refine v_iinc (pc := 16) (i := 3) (v := nI (i + 1)) (lo' := [some (.ref _), some (.long _), _, some (.int _), some (.int _)]) F dJ7_fill_d0a16_16 rfl (j_inc _) rfl rfl ?_
    refine v_goto (pc := 19) (tgt := 6) F dJ7_fill_d0a16_19 (by decide) ?_
    refine v_mem (flJ_s _ _ _ _) (ih (by omega))
