/-! small rows -/
section tops
variable {X : j_X} {post : j_ps} {pc : Nat} {lo : j_lo} {st : List Value} {μ : j_M}
theorem v_topE {x y : Int32} (h : x = y) (k : V X post pc lo (.int y :: st) μ) : V X post pc lo (.int x :: st) μ := by rw [h]; exact k
theorem v_topR {x y : Nat} (h : x = y) (k : V X post pc lo (.ref y :: st) μ) : V X post pc lo (.ref x :: st) μ := by rw [h]; exact k
theorem v_topJ {x y : Int64} (h : x = y) (k : V X post pc lo (.long y :: st) μ) : V X post pc lo (.long x :: st) μ := by rw [h]; exact k
theorem v_mem {μ' : j_M} (h : μ = μ') (k : V X post pc lo st μ') : V X post pc lo st μ := by rw [h]; exact k
theorem v_gen (k : ∀ μ', μ' = μ → V X post pc lo st μ') : V X post pc lo st μ := k μ rfl
theorem v_drop {lo' : j_lo} {i : Nat} (h : lo.set i none = lo') (k : V X post pc lo' st μ) : V X post pc lo st μ := by
  subst h
  obtain ⟨p, l, e, R, s, m, args, below, meth, kc, G, Λ', nL⟩ := X
  intro H locs ls hP hS hl
  refine k H locs ls hP hS ⟨hl.1, hl.2.1, by rw [List.length_set]; exact hl.2.2.1, fun j v hj => ?_⟩
  by_cases e2 : j = i
  · subst e2
    have hlt : j < lo.length := by
      have := (List.getElem?_eq_some_iff.mp hj).1
      simpa using this
    rw [List.getElem?_set_self hlt] at hj
    cases hj
  · rw [List.getElem?_set_ne (Ne.symm e2)] at hj
    exact hl.2.2.2 j v hj
end tops
theorem j_m1 {k : Nat} (h : k < 2 ^ 31) : ¬ nI k = -1 := by
  intro e
  have h1 := congrArg Int32.toInt e
  rw [nI_toInt h] at h1
  have : (-1 : Int32).toInt = -1 := by decide
  omega
theorem j_nm1 {k : Nat} (h : k < 2 ^ 31) : (nI k = -1) = False := eq_false (j_m1 h)
theorem j_eq0 {k : Nat} (h : k < 2 ^ 31) : (nI k = 0) = (k = 0) := propext ⟨fun e => (nI_eq h (by omega)).mp (e.trans nI_0.symm), fun e => by rw [e]; exact nI_0⟩
theorem j_lt0 {k : Nat} (h : k < 2 ^ 31) : (nI k < 0) = False := eq_false (nI_pos h)
theorem j_ge0 {k : Nat} (h : k < 2 ^ 31) : (0 ≤ nI k) = True := eq_true (nI_pos' h)
theorem j_gt0 {k : Nat} (h : k < 2 ^ 31) : (0 < nI k) = (0 < k) := by
  rw [← nI_0]
  exact propext (nI_ltI (by omega) h)
theorem j_le0 {k : Nat} (h : k < 2 ^ 31) : (nI k ≤ 0) = (k = 0) := by
  rw [← nI_0]
  exact propext ((nI_leI h (by omega)).trans (by omega))
/-! bits -/
def tb (b : Int32) (i : Nat) : Bool := b.toBitVec.getLsbD i
theorem tb_ext {a b : Int32} (h : ∀ i, i < 32 → tb a i = tb b i) : a = b := Int32.toBitVec_inj.mp (BitVec.eq_of_getLsbD_eq (fun i hi => h i hi))
theorem tb_ge {a : Int32} {i : Nat} (h : 32 ≤ i) : tb a i = false := BitVec.getLsbD_of_ge _ _ h
theorem tb_and (a b : Int32) (i : Nat) : tb (a &&& b) i = (tb a i && tb b i) := by
  unfold tb; rw [Int32.toBitVec_and, BitVec.getLsbD_and]
theorem tb_or (a b : Int32) (i : Nat) : tb (a ||| b) i = (tb a i || tb b i) := by
  unfold tb; rw [Int32.toBitVec_or, BitVec.getLsbD_or]
theorem tb_xor (a b : Int32) (i : Nat) : tb (a ^^^ b) i = Bool.xor (tb a i) (tb b i) := by
  unfold tb; rw [Int32.toBitVec_xor, BitVec.getLsbD_xor]
theorem tb_0 (i : Nat) : tb 0 i = false := by
  unfold tb; simp
theorem tb_m1 {i : Nat} (h : i < 32) : tb (-1) i = true := by
  have : ∀ i, i < 32 → tb (-1) i = true := by decide +kernel
  exact this i h
theorem tb_one {l : Nat} (hl : l < 32) (i : Nat) : tb ((1 : Int32) <<< (nI l &&& 31)) i = decide (i = l) := by
  have h : ∀ l, l < 32 → ((1 : Int32) <<< (nI l &&& 31)).toBitVec = BitVec.twoPow 32 l := by decide +kernel
  unfold tb
  rw [h l hl, BitVec.getLsbD_twoPow]
  by_cases e : i = l
  · subst e; simp [hl]
  · have e2 : ¬ l = i := fun q => e q.symm
    simp [e, e2]
theorem tb_shr {l : Nat} (hl : l < 32) (b : Int32) : tb (b >>> (nI l &&& 31)) 0 = tb b l := by
  have h : ∀ l, l < 32 → ((nI l &&& 31).toBitVec.smod 32).toNat = l := by decide +kernel
  unfold tb
  rw [Int32.toBitVec_shiftRight, BitVec.sshiftRight', h l hl, BitVec.getLsbD_sshiftRight]
  have e : ¬ (32 ≤ 0) := by omega
  simp [hl]
theorem tb_low (x : Int32) : (x &&& 1 = 1) = (tb x 0 = true) := by
  refine propext ⟨fun h => ?_, fun h => ?_⟩
  · have h1 := congrArg (fun z => tb z 0) h
    simp only [tb_and] at h1
    have : tb 1 0 = true := by decide +kernel
    simp [this] at h1
    exact h1
  · apply tb_ext
    intro i hi
    rw [tb_and]
    have h1 : ∀ i, i < 32 → tb 1 i = decide (i = 0) := by decide +kernel
    rw [h1 i hi]
    by_cases e : i = 0
    · subst e; simp [h]
    · simp [e]
theorem tb_low0 (x : Int32) : (x &&& 1 = 0) = (tb x 0 = false) := by
  refine propext ⟨fun h => ?_, fun h => ?_⟩
  · have h1 := congrArg (fun z => tb z 0) h
    simp only [tb_and] at h1
    have : tb 1 0 = true := by decide +kernel
    simp [this, tb_0] at h1
    exact h1
  · apply tb_ext
    intro i hi
    rw [tb_and, tb_0]
    have h1 : ∀ i, i < 32 → tb 1 i = decide (i = 0) := by decide +kernel
    rw [h1 i hi]
    by_cases e : i = 0
    · subst e; simp [h]
    · simp [e]
theorem tb_in {l : Nat} (hl : l < 32) (b : Int32) : ((b >>> (nI l &&& 31)) &&& 1 = 1) = (tb b l = true) := by rw [tb_low, tb_shr hl]
theorem tb_in0 {l : Nat} (hl : l < 32) (b : Int32) : ((b >>> (nI l &&& 31)) &&& 1 = 0) = (tb b l = false) := by rw [tb_low0, tb_shr hl]
theorem tb_val {l : Nat} (hl : l < 32) (b : Int32) : (b >>> (nI l &&& 31)) &&& 1 = if tb b l = true then 1 else 0 := by
  by_cases h : tb b l = true
  · rw [if_pos h]; rw [← tb_in hl] at h; exact h
  · rw [if_neg h]; have h2 : tb b l = false := by simpa using h
    rw [← tb_in0 hl] at h2; exact h2
theorem tb_nI {n i : Nat} (h : n < 2 ^ 32) : tb (nI n) i = n.testBit i := by
  unfold tb
  rw [show (nI n).toBitVec = BitVec.ofNat 32 n from rfl, BitVec.getLsbD_ofNat]
  by_cases hi : i < 32
  · simp [hi]
  · have h1 : n < 2 ^ i := Nat.lt_of_lt_of_le h (Nat.pow_le_pow_right (by omega) (by omega))
    simp [hi, Nat.testBit_lt_two_pow h1]
