/-! what the answers are: places, takes, orders, evenings, as functions -/
def fP (P : Nat → Bool) : Option Nat := (List.range 12).find? P
def lK (P : Nat → Bool) : Nat → Option Nat
  | 0 => none
  | k + 1 => if P k = true then some k else lK P k
def lP (P : Nat → Bool) : Option Nat := lK P 12
def o2i (o : Option Nat) : Int32 := match o with
  | none => -1
  | some p => nI p
def cK (P : Nat → Bool) : Nat → Nat
  | 0 => 0
  | k + 1 => if P k = true then cK P k + 1 else cK P k
def cP (P : Nat → Bool) : Nat := cK P 12
theorem cK_le (P : Nat → Bool) (k : Nat) : cK P k ≤ k := by
  induction k with
  | zero => exact Nat.le_refl _
  | succ k ih => simp only [cK]; split <;> omega
theorem find_range_none {P : Nat → Bool} {n : Nat} (h : ∀ j, j < n → P j = false) : (List.range n).find? P = none := by
  rw [List.find?_eq_none]
  intro x hx
  rw [h x (List.mem_range.mp hx)]
  exact Bool.false_ne_true
theorem find_range_some {P : Nat → Bool} {n k : Nat} (hk : k < n) (hp : P k = true) (h : ∀ j, j < k → P j = false) : (List.range n).find? P = some k := by
  rw [List.find?_range_eq_some]
  refine ⟨hp, List.mem_range.mpr hk, fun j hj => ?_⟩
  rw [h j hj]
  rfl
theorem fP_none {P : Nat → Bool} (h : ∀ j, j < 12 → P j = false) : fP P = none := find_range_none h
theorem fP_some {P : Nat → Bool} {k : Nat} (hk : k < 12) (hp : P k = true) (h : ∀ j, j < k → P j = false) : fP P = some k := find_range_some hk hp h
theorem fP_none_iff {P : Nat → Bool} : fP P = none ↔ ∀ j, j < 12 → P j = false := by
  refine ⟨fun h j hj => ?_, fP_none⟩
  have := List.find?_eq_none.mp h j (List.mem_range.mpr hj)
  simpa using this
theorem fP_spec {P : Nat → Bool} {k : Nat} (h : fP P = some k) : k < 12 ∧ P k = true ∧ ∀ j, j < k → P j = false := by
  have h1 := List.find?_range_eq_some.mp h
  refine ⟨List.mem_range.mp h1.2.1, h1.1, fun j hj => ?_⟩
  have := h1.2.2 j hj
  simpa using this
/-- one who LIKES: the sort s, of one with a and liked -/
def lik (a lk s : Int32) : Prop := ¬ s = -1 ∧ (s = a ∨ (lk >>> (s &&& 31)) &&& 1 = 1)
def likB (a lk s : Int32) : Bool := !(s == -1) && (s == a || ((lk >>> (s &&& 31)) &&& 1 == 1))
theorem likB_iff {a lk s : Int32} : likB a lk s = true ↔ ¬ s = -1 ∧ (s = a ∨ (lk >>> (s &&& 31)) &&& 1 = 1) := by
  simp [likB]
def lookO (a lk : Int32) (u : Nat → Int32) : Option Nat := match fP (fun p => u p == a) with
  | some p => some p
  | none => fP (fun p => likB a lk (u p))
def rmL (u : Nat → Int32) (L : List Nat) : Nat → Int32 := fun q => if q ∈ L then -1 else u q
def tkChild (a lk : Int32) (u : Nat → Int32) : List Nat := (lookO a lk u).toList ++ (lookO a lk (rmL u (lookO a lk u).toList)).toList
def shyO (a lk : Int32) (u : Nat → Int32) : Nat → Nat × Option Nat
  | 0 => (0, none)
  | s + 1 => if likB a lk (nI s) = true ∧ (shyO a lk u s).1 < cP (fun p => u p == nI s) then (cP (fun p => u p == nI s), fP (fun p => u p == nI s)) else shyO a lk u s
/-- the places that one takes, in the order in which he does -/
def tk (k a lk : Int32) (u : Nat → Int32) : List Nat :=
  if k = 2 then (lP (fun p => likB a lk (u p))).toList
  else if k = 3 then (if fP (fun p => u p == a) = none then tkChild a lk u else (List.range 12).filter (fun p => u p == a))
  else if k = 4 then (match lP (fun p => likB a lk (u p)) with
    | none => []
    | some p => if 1 < cP (fun q => u q == u p) then [p] else [])
  else if k = 5 then (shyO a lk u 8).2.toList
  else if k = 1 then tkChild a lk u
  else (lookO a lk u).toList
/-- bits of a list of places -/
def bl : List Nat → Int32
  | [] => 0
  | p :: L => ((1 : Int32) <<< (nI p &&& 31)) ||| bl L
theorem tb_bl {L : List Nat} (h : ∀ p ∈ L, p < 32) (i : Nat) : tb (bl L) i = decide (i ∈ L) := by
  induction L with
  | nil => simp [bl, tb_0]
  | cons p L ih =>
    rw [bl, tb_or, tb_one (h p List.mem_cons_self), ih (fun q hq => h q (List.mem_cons_of_mem _ hq))]
    by_cases e : i = p <;> simp [e]
/-- one more looker in the order: behind those who aren't older -/
def insO (age : Nat → Int32) (x : Nat) (O : List Nat) : List Nat := (O.reverse.dropWhile (fun y => decide (age x < age y))).reverse ++ x :: (O.reverse.takeWhile (fun y => decide (age x < age y))).reverse
def ordO (age : Nat → Int32) (S : Nat → Bool) : Nat → List Nat
  | 0 => []
  | n + 1 => if S n = true then insO age n (ordO age S n) else ordO age S n
/-- an evening: who takes what, what is left -/
def goT (w : Nat → Nat → Int32) : List Nat → (Nat → Int32) → Nat → List Nat
  | [], _, _ => []
  | l :: O, u, x => if x = l then tk (w 2 l) (w 3 l) (w 5 l) u else goT w O (rmL u (tk (w 2 l) (w 3 l) (w 5 l) u)) x
def goU (w : Nat → Nat → Int32) : List Nat → (Nat → Int32) → Nat → Int32
  | [], u => u
  | l :: O, u => goU w O (rmL u (tk (w 2 l) (w 3 l) (w 5 l) u))
