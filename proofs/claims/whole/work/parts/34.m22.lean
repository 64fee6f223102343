/-! the reference's copy -/
def s_copy (p q i j n : Int32) (μ : j_M) : Int32 × j_M := if inQ 8 p = true then (if inQ 8 q = true then (if nI 10 ≤ μ.1 10 (ix p) ∨ nI 10 ≤ μ.1 10 (ix q) ∨ (inQ 5 (μ.1 10 (ix p)) = true ∧ inQ 5 (μ.1 10 (ix q)) = true ∧ ¬ μ.1 10 (ix p) = μ.1 10 (ix q)) then rj (-3) 3 μ else if μ.1 10 (ix p) < 0 ∨ μ.1 10 (ix q) < 0 then rj (-4) 4 μ else if n < 0 ∨ i < 0 ∨ j < 0 ∨ ix (μ.1 11 (ix p)) < ix i + ix n ∨ ix (μ.1 11 (ix q)) < ix j + ix n then rj (-2) 2 μ else (n, j_cL μ 12 12 (40 * ix p + ix i) (40 * ix q + ix j) (ix n))) else rj (-2) 2 μ) else rj (-2) 2 μ
theorem SH_mid {n : Nat} {h len : Int32} (q : SH n h len) (hn : n ≤ 8) (h1 : ¬ nI 10 ≤ h) (h2 : ¬ h < 0) : ∃ m, m ≤ 40 ∧ len = nI m := by
  rcases q with q | ⟨-, q⟩ | ⟨l, hl, q⟩
  · rw [q] at h2; exact absurd (by decide) h2
  · exact q
  · rw [q] at h1
    exact absurd (nI_le (by omega) (by omega)) h1
theorem cL_0 {μ : j_M} {a sp dp : Nat} : j_cL μ a a sp dp 0 = μ := by
  refine Prod.ext rfl ?_
  funext c k
  show (if c = a then va_cpy (μ.2 a) (μ.2 a) sp dp 0 k else μ.2 c k) = μ.2 c k
  by_cases e : c = a
  · subst e; rw [if_pos rfl]; exact pk_cpy_out (by omega)
  · rw [if_neg e]
theorem cL_up {μ : j_M} {a sp dp x : Nat} {v : Int64} (h : v = μ.2 a (sp + x)) : j_pL (j_cL μ a a sp dp x) a (dp + x) v = j_cL μ a a sp dp (x + 1) := by
  refine Prod.ext rfl ?_
  funext c k
  by_cases e : c = a
  · subst e
    show (if c = c ∧ k = dp + x then v else if c = c then va_cpy (μ.2 c) (μ.2 c) sp dp x k else μ.2 c k) = if c = c then va_cpy (μ.2 c) (μ.2 c) sp dp (x + 1) k else μ.2 c k
    rw [if_pos rfl, if_pos rfl]
    by_cases ek : k = dp + x
    · rw [if_pos ⟨rfl, ek⟩, pk_cpy_in (by omega) (by omega), h, ek]
      exact congrArg _ (by omega)
    · rw [if_neg (fun z => ek z.2)]
      by_cases hk : dp ≤ k ∧ k < dp + x
      · rw [pk_cpy_in hk.1 hk.2, pk_cpy_in hk.1 (by omega)]
      · rw [pk_cpy_out (by omega), pk_cpy_out (by omega)]
  · show (if c = a ∧ k = dp + x then v else if c = a then _ else μ.2 c k) = if c = a then _ else μ.2 c k
    rw [if_neg (fun z => e z.1), if_neg e, if_neg e]
theorem cL_o {μ : j_M} {a sp dp x k : Nat} (h : k < dp ∨ dp + x ≤ k) : (j_cL μ a a sp dp x).2 a k = μ.2 a k := by
  show (if a = a then va_cpy (μ.2 a) (μ.2 a) sp dp x k else μ.2 a k) = _
  rw [if_pos rfl]; exact pk_cpy_out h
theorem cL_dn {μ : j_M} {a sp dp x : Nat} {v : Int64} (h : v = μ.2 a sp) : j_pL (j_cL μ a a (sp + 1) (dp + 1) x) a dp v = j_cL μ a a sp dp (x + 1) := by
  refine Prod.ext rfl ?_
  funext c k
  by_cases e : c = a
  · subst e
    show (if c = c ∧ k = dp then v else if c = c then va_cpy (μ.2 c) (μ.2 c) (sp + 1) (dp + 1) x k else μ.2 c k) = if c = c then va_cpy (μ.2 c) (μ.2 c) sp dp (x + 1) k else μ.2 c k
    rw [if_pos rfl, if_pos rfl]
    by_cases ek : k = dp
    · rw [if_pos ⟨rfl, ek⟩, pk_cpy_in (by omega) (by omega), h, ek]
      exact congrArg _ (by omega)
    · rw [if_neg (fun z => ek z.2)]
      by_cases hk : dp ≤ k ∧ k < dp + (x + 1)
      · rw [pk_cpy_in (by omega) (by omega), pk_cpy_in hk.1 hk.2]
        exact congrArg _ (by omega)
      · rw [pk_cpy_out (by omega), pk_cpy_out (by omega)]
  · show (if c = a ∧ k = dp then v else if c = a then _ else μ.2 c k) = if c = a then _ else μ.2 c k
    rw [if_neg (fun z => e z.1), if_neg e, if_neg e]
