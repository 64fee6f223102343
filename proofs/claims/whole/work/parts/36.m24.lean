/-! the tape: where a run of such letters ends, and the next token -/
def runTo (P : Int32 → Bool) (t : Nat → Int32) (n : Nat) : Nat → Nat → Nat
  | 0, a => a
  | f + 1, a => if a < n ∧ P (t a) = true then runTo P t n f (a + 1) else a
def scan (P : Int32 → Bool) (t : Nat → Int32) (n a : Nat) : Nat := runTo P t n (n - a) a
theorem scan_s {P : Int32 → Bool} {t : Nat → Int32} {n a : Nat} (h : a < n) (hp : P (t a) = true) : scan P t n a = scan P t n (a + 1) := by
  unfold scan
  rw [show n - a = (n - (a + 1)) + 1 by omega]
  exact if_pos ⟨h, hp⟩
theorem scan_f {P : Int32 → Bool} {t : Nat → Int32} {n a : Nat} (hp : ¬ P (t a) = true) : scan P t n a = a := by
  unfold scan
  rcases e : n - a with _ | f
  · rfl
  · exact if_neg (fun z => hp z.2)
theorem scan_n {P : Int32 → Bool} {t : Nat → Int32} {n a : Nat} (h : n ≤ a) : scan P t n a = a := by
  unfold scan
  rw [show n - a = 0 by omega]; rfl
theorem runTo_b {P : Int32 → Bool} {t : Nat → Int32} {n : Nat} : ∀ f a, a ≤ runTo P t n f a ∧ (a ≤ n → runTo P t n f a ≤ n) := by
  intro f
  induction f with
  | zero => intro a; exact ⟨Nat.le_refl _, fun h => h⟩
  | succ f ih =>
    intro a
    by_cases h : a < n ∧ P (t a) = true
    · rw [show runTo P t n (f + 1) a = runTo P t n f (a + 1) from if_pos h]
      have := ih (a + 1)
      exact ⟨by omega, fun _ => this.2 (by omega)⟩
    · rw [show runTo P t n (f + 1) a = a from if_neg h]
      exact ⟨Nat.le_refl _, fun q => q⟩
theorem scan_ge {P : Int32 → Bool} {t : Nat → Int32} {n a : Nat} : a ≤ scan P t n a := (runTo_b _ _).1
theorem scan_le {P : Int32 → Bool} {t : Nat → Int32} {n a : Nat} (h : a ≤ n) : scan P t n a ≤ n := (runTo_b _ _).2 h
def isL (c : Int32) : Bool := inB 97 122 c
def isD (c : Int32) : Bool := inB 48 57 c
def isB (c : Int32) : Bool := c == nI 32
/-- the next token from a on: where it begins, where it ends, what it is, its value -/
def tkF (t : Nat → Int32) (n a : Nat) : Nat := scan isB t n a
def tkT (t : Nat → Int32) (n a : Nat) : Nat := if tkF t n a = n then n else if isL (t (tkF t n a)) = true then scan isL t n (tkF t n a + 1) else if isD (t (tkF t n a)) = true then scan isD t n (tkF t n a + 1) else tkF t n a + 1
def tkK (t : Nat → Int32) (n a : Nat) : Int32 := if tkF t n a = n then nI 101 else if isL (t (tkF t n a)) = true then nI 119 else if isD (t (tkF t n a)) = true then (if 2 < tkT t n a - tkF t n a then nI 120 else nI 48) else if t (tkF t n a) = nI 59 then nI 59 else nI 120
def tkV (t : Nat → Int32) (n a : Nat) : Int32 := if 2 ≤ tkT t n a - tkF t n a then nI 10 * (t (tkF t n a) - nI 48) + t (tkF t n a + 1) - nI 48 else t (tkF t n a) - nI 48
theorem tkF_le {t : Nat → Int32} {n a : Nat} (h : a ≤ n) : a ≤ tkF t n a ∧ tkF t n a ≤ n := ⟨scan_ge, scan_le h⟩
theorem tkT_le {t : Nat → Int32} {n a : Nat} (h : a ≤ n) : tkF t n a ≤ tkT t n a ∧ tkT t n a ≤ n := by
  have hf := tkF_le (t := t) h
  unfold tkT
  by_cases h1 : tkF t n a = n
  · rw [if_pos h1]; omega
  · rw [if_neg h1]
    by_cases h2 : isL (t (tkF t n a)) = true
    · rw [if_pos h2]
      have := scan_ge (P := isL) (t := t) (n := n) (a := tkF t n a + 1)
      exact ⟨by omega, scan_le (by omega)⟩
    · rw [if_neg h2]
      by_cases h3 : isD (t (tkF t n a)) = true
      · rw [if_pos h3]
        have := scan_ge (P := isD) (t := t) (n := n) (a := tkF t n a + 1)
        exact ⟨by omega, scan_le (by omega)⟩
      · rw [if_neg h3]; omega
