/-! the reference's swaps -/
def brO (w : Nat → Nat → Int32) (I : Nat → Bool) (n : Nat) (so : Int32) : Option Nat := fN (fun l => I l && w 7 l == so) n
def wsF (w : Nat → Nat → Int32) (I : Nat → Bool) (n l : Nat) : Nat → Option Nat
  | 0 => brO w I n (w 3 l)
  | s + 1 => match wsF w I n l s with
    | some x => some x
    | none => if tb (w 5 l) s = true then brO w I n (nI s) else none
def wsN (w : Nat → Nat → Int32) (I : Nat → Bool) (n l : Nat) : Nat := (wsF w I n l 8).getD l
def rgA (wi : Nat → Nat) (l : Nat) : Nat → Nat
  | 0 => wi l
  | i + 1 => if rgA wi l i = l then l else wi (rgA wi l i)
def rnR (w : Nat → Nat → Int32) (I : Nat → Bool) (n l : Nat) : Bool := I l && rgA (wsN w I n) l n == l
def swK (w : Nat → Nat → Int32) (n : Nat) : Nat → (Nat → Bool) × (Nat → Int32)
  | 0 => (fun l => !(w 7 l == -1), fun _ => -1)
  | k + 1 => (fun l => (swK w n k).1 l && !(rnR w (swK w n k).1 n l), fun l => if rnR w (swK w n k).1 n l = true then w 7 (wsN w (swK w n k).1 n l) else (swK w n k).2 l)
theorem brO_lt {w : Nat → Nat → Int32} {I : Nat → Bool} {n x : Nat} {so : Int32} (h : brO w I n so = some x) : x < n ∧ I x = true := by
  obtain ⟨h1, h2, -⟩ := fN_spec h
  simp at h2
  exact ⟨h1, h2.1⟩
theorem wsF_lt {w : Nat → Nat → Int32} {I : Nat → Bool} {n l x : Nat} : ∀ s, wsF w I n l s = some x → x < n ∧ I x = true := by
  intro s
  induction s with
  | zero => exact brO_lt
  | succ s ih =>
    intro h
    simp only [wsF] at h
    rcases e : wsF w I n l s with _ | y
    · rw [e] at h
      simp only [] at h
      by_cases hb : tb (w 5 l) s = true
      · rw [if_pos hb] at h; exact brO_lt h
      · rw [if_neg hb] at h; exact absurd h (by simp)
    · rw [e] at h
      simp only [] at h
      exact ih (e.trans h)
theorem wsF_s {w : Nat → Nat → Int32} {I : Nat → Bool} {n l s x : Nat} (h : wsF w I n l s = some x) : wsF w I n l (s + 1) = some x := by simp only [wsF, h]
theorem wsF_t {w : Nat → Nat → Int32} {I : Nat → Bool} {n l s : Nat} (h : wsF w I n l s = none) (hb : tb (w 5 l) s = true) : wsF w I n l (s + 1) = brO w I n (nI s) := by simp only [wsF, h, hb, ↓reduceIte]
theorem wsF_f {w : Nat → Nat → Int32} {I : Nat → Bool} {n l s : Nat} (h : wsF w I n l s = none) (hb : ¬ tb (w 5 l) s = true) : wsF w I n l (s + 1) = none := by simp only [wsF, h, hb]; rfl
theorem wsN_lt {w : Nat → Nat → Int32} {I : Nat → Bool} {n l : Nat} (hl : l < n) (hI : I l = true) : wsN w I n l < n ∧ I (wsN w I n l) = true := by
  unfold wsN
  rcases e : wsF w I n l 8 with _ | x
  · exact ⟨hl, hI⟩
  · exact wsF_lt 8 e
theorem pigeon : ∀ (n : Nat) (f : Nat → Nat), (∀ i, i ≤ n → f i < n) → ∃ i j, i < j ∧ j ≤ n ∧ f i = f j := by
  intro n
  induction n with
  | zero => intro f h; exact absurd (h 0 (Nat.le_refl 0)) (by omega)
  | succ n ih =>
    intro f h
    by_cases hc : ∃ i, i ≤ n ∧ f i = f (n + 1)
    · obtain ⟨i, h1, h2⟩ := hc
      exact ⟨i, n + 1, by omega, Nat.le_refl _, h2⟩
    · have hne : ∀ i, i ≤ n → f i ≠ f (n + 1) := fun i hi e => hc ⟨i, hi, e⟩
      obtain ⟨i, j, h1, h2, h3⟩ := ih (fun i => if f (n + 1) < f i then f i - 1 else f i) (fun i hi => by
        have a1 := hne i hi
        have a2 := h i (by omega)
        have a3 := h (n + 1) (Nat.le_refl _)
        by_cases hq : f (n + 1) < f i
        · rw [if_pos hq]; omega
        · rw [if_neg hq]; omega)
      refine ⟨i, j, h1, by omega, ?_⟩
      have a1 := hne i (by omega)
      have a2 := hne j h2
      by_cases q1 : f (n + 1) < f i
      · rw [if_pos q1] at h3
        by_cases q2 : f (n + 1) < f j
        · rw [if_pos q2] at h3; omega
        · rw [if_neg q2] at h3; omega
      · rw [if_neg q1] at h3
        by_cases q2 : f (n + 1) < f j
        · rw [if_pos q2] at h3; omega
        · rw [if_neg q2] at h3; omega
/-- steps along wishes -/
def itN (wi : Nat → Nat) (l : Nat) : Nat → Nat
  | 0 => l
  | i + 1 => wi (itN wi l i)
theorem itN_add {wi : Nat → Nat} {l i j : Nat} : itN wi l (i + j) = itN wi (itN wi l i) j := by
  induction j with
  | zero => rfl
  | succ j ih => show wi (itN wi l (i + j)) = wi (itN wi (itN wi l i) j); rw [ih]
theorem rgA_it {wi : Nat → Nat} {l : Nat} : ∀ i, (rgA wi l i = l ∧ ∃ m, m ≤ i ∧ itN wi l (m + 1) = l) ∨ (rgA wi l i = itN wi l (i + 1) ∧ ∀ m, m ≤ i → ¬ itN wi l (m + 1) = l) := by
  intro i
  induction i with
  | zero =>
    by_cases h : wi l = l
    · exact Or.inl ⟨h, 0, Nat.le_refl _, h⟩
    · exact Or.inr ⟨rfl, fun m hm => by rw [show m = 0 by omega]; exact h⟩
  | succ i ih =>
    rcases ih with ⟨h1, m, hm, h2⟩ | ⟨h1, h2⟩
    · refine Or.inl ⟨if_pos h1, m, by omega, h2⟩
    · have hne : ¬ rgA wi l i = l := by rw [h1]; exact h2 i (Nat.le_refl _)
      have e : rgA wi l (i + 1) = itN wi l (i + 1 + 1) := by
        show (if rgA wi l i = l then l else wi (rgA wi l i)) = _
        rw [if_neg hne, h1]; rfl
      by_cases h : itN wi l (i + 1 + 1) = l
      · exact Or.inl ⟨e.trans h, i + 1, Nat.le_refl _, h⟩
      · refine Or.inr ⟨e, fun m hm => ?_⟩
        rcases Nat.lt_or_ge i m with q | q
        · rw [show m = i + 1 by omega]; exact h
        · exact h2 m q
theorem rgA_iff {wi : Nat → Nat} {l i : Nat} : rgA wi l i = l ↔ ∃ m, m ≤ i ∧ itN wi l (m + 1) = l := by
  rcases rgA_it (wi := wi) (l := l) i with ⟨h1, h2⟩ | ⟨h1, h2⟩
  · exact ⟨fun _ => h2, fun _ => h1⟩
  · refine ⟨fun e => ?_, fun ⟨m, hm, e⟩ => absurd e (h2 m hm)⟩
    rw [h1] at e
    exact absurd e (h2 i (Nat.le_refl _))
theorem itN_in {wi : Nat → Nat} {J : Nat → Prop} (h : ∀ l, J l → J (wi l)) {l : Nat} (hl : J l) : ∀ i, J (itN wi l i)
  | 0 => hl
  | i + 1 => h _ (itN_in h hl i)
/-- among some closed under wishes one is on a ring -/
theorem ring_ex {wi : Nat → Nat} {J : Nat → Prop} {n : Nat} (h : ∀ l, J l → J (wi l)) (hJ : ∀ l, J l → l < n) {l : Nat} (hl : J l) : ∃ x, J x ∧ rgA wi x n = x := by
  obtain ⟨i, j, h1, h2, h3⟩ := pigeon n (itN wi l) (fun i _ => hJ _ (itN_in h hl i))
  refine ⟨itN wi l i, itN_in h hl i, rgA_iff.mpr ⟨j - i - 1, by omega, ?_⟩⟩
  rw [← itN_add, show i + (j - i - 1 + 1) = j by omega]
  exact h3.symm
/-- more steps than lookers find no more rings -/
theorem ring_more {wi : Nat → Nat} {J : Nat → Prop} {n : Nat} (h : ∀ l, J l → J (wi l)) (hJ : ∀ l, J l → l < n) {l m : Nat} (hl : J l) (hm : n ≤ m) : rgA wi l m = l ↔ rgA wi l n = l := by
  rw [rgA_iff, rgA_iff]
  refine ⟨fun ⟨k, hkm, e⟩ => ?_, fun ⟨k, hk, e⟩ => ⟨k, by omega, e⟩⟩
  obtain ⟨q, hq1, hq2⟩ : ∃ q, (q ≤ k ∧ itN wi l (q + 1) = l) ∧ ∀ z, z < q → ¬ itN wi l (z + 1) = l := by
    clear hm hkm
    induction k using Nat.strongRecOn with
    | _ k ih =>
      by_cases hc : ∃ z, z < k ∧ itN wi l (z + 1) = l
      · obtain ⟨z, hz, ez⟩ := hc
        obtain ⟨q, hq, hq2⟩ := ih z hz ez
        exact ⟨q, ⟨by omega, hq.2⟩, hq2⟩
      · exact ⟨k, ⟨Nat.le_refl _, e⟩, fun z hz ez => hc ⟨z, hz, ez⟩⟩
  refine ⟨q, ?_, hq1.2⟩
  rcases Nat.lt_or_ge n q with hlt | hge
  · exfalso
    obtain ⟨i, j, h1, h2, h3⟩ := pigeon n (itN wi l) (fun i _ => hJ _ (itN_in h hl i))
    have e1 : itN wi l (i + (q + 1 - j)) = l := by rw [itN_add, h3, ← itN_add, show j + (q + 1 - j) = q + 1 by omega]; exact hq1.2
    exact hq2 (i + (q + 1 - j) - 1) (by omega) (by rw [show i + (q + 1 - j) - 1 + 1 = i + (q + 1 - j) by omega]; exact e1)
  · exact hge
