/-! what the answers are: places, takes, orders, evenings, as functions -/
def fP (P : Nat → Bool) : Option Nat := (List.range 12).find? P
def lK (P : Nat → Bool) : Nat → Option Nat
  | 0 => none
  | k + 1 => if P k = true then some k else lK P k
def lP (P : Nat → Bool) : Option Nat := lK P 12
def o2i (o : Option Nat) : Int32 := match o with
  | none => -1
  | some p => nI p
def cK (P : Nat → Bool) : Nat → Nat
  | 0 => 0
  | k + 1 => if P k = true then cK P k + 1 else cK P k
def cP (P : Nat → Bool) : Nat := cK P 12
theorem cK_le (P : Nat → Bool) (k : Nat) : cK P k ≤ k := by
  induction k with
  | zero => exact Nat.le_refl _
  | succ k ih => simp only [cK]; split <;> omega
theorem find_range_none {P : Nat → Bool} {n : Nat} (h : ∀ j, j < n → P j = false) : (List.range n).find? P = none := by
  rw [List.find?_eq_none]
  intro x hx
  rw [h x (List.mem_range.mp hx)]
  exact Bool.false_ne_true
theorem find_range_some {P : Nat → Bool} {n k : Nat} (hk : k < n) (hp : P k = true) (h : ∀ j, j < k → P j = false) : (List.range n).find? P = some k := by
  rw [List.find?_range_eq_some]
  refine ⟨hp, List.mem_range.mpr hk, fun j hj => ?_⟩
  rw [h j hj]
  rfl
theorem fP_none {P : Nat → Bool} (h : ∀ j, j < 12 → P j = false) : fP P = none := find_range_none h
theorem fP_some {P : Nat → Bool} {k : Nat} (hk : k < 12) (hp : P k = true) (h : ∀ j, j < k → P j = false) : fP P = some k := find_range_some hk hp h
theorem fP_none_iff {P : Nat → Bool} : fP P = none ↔ ∀ j, j < 12 → P j = false := by
  refine ⟨fun h j hj => ?_, fP_none⟩
  have := List.find?_eq_none.mp h j (List.mem_range.mpr hj)
  simpa using this
theorem fP_spec {P : Nat → Bool} {k : Nat} (h : fP P = some k) : k < 12 ∧ P k = true ∧ ∀ j, j < k → P j = false := by
  have h1 := List.find?_range_eq_some.mp h
  refine ⟨List.mem_range.mp h1.2.1, h1.1, fun j hj => ?_⟩
  have := h1.2.2 j hj
  simpa using this
/-- one who LIKES: the sort s, of one with a and liked -/
def lik (a lk s : Int32) : Prop := ¬ s = -1 ∧ (s = a ∨ (lk >>> (s &&& 31)) &&& 1 = 1)
def likB (a lk s : Int32) : Bool := !(s == -1) && (s == a || ((lk >>> (s &&& 31)) &&& 1 == 1))
theorem likB_iff {a lk s : Int32} : likB a lk s = true ↔ ¬ s = -1 ∧ (s = a ∨ (lk >>> (s &&& 31)) &&& 1 = 1) := by
  simp [likB]
def lookO (a lk : Int32) (u : Nat → Int32) : Option Nat := match fP (fun p => u p == a) with
  | some p => some p
  | none => fP (fun p => likB a lk (u p))
def rmL (u : Nat → Int32) (L : List Nat) : Nat → Int32 := fun q => if q ∈ L then -1 else u q
def tkChild (a lk : Int32) (u : Nat → Int32) : List Nat := (lookO a lk u).toList ++ (lookO a lk (rmL u (lookO a lk u).toList)).toList
def shyO (a lk : Int32) (u : Nat → Int32) : Nat → Nat × Option Nat
  | 0 => (0, none)
  | s + 1 => if likB a lk (nI s) = true ∧ (shyO a lk u s).1 < cP (fun p => u p == nI s) then (cP (fun p => u p == nI s), fP (fun p => u p == nI s)) else shyO a lk u s
/-- the places that one takes, in the order in which he does -/
def tk (k a lk : Int32) (u : Nat → Int32) : List Nat :=
  if k = 2 then (lP (fun p => likB a lk (u p))).toList
  else if k = 3 then (if fP (fun p => u p == a) = none then tkChild a lk u else (List.range 12).filter (fun p => u p == a))
  else if k = 4 then (match lP (fun p => likB a lk (u p)) with
    | none => []
    | some p => if 1 < cP (fun q => u q == u p) then [p] else [])
  else if k = 5 then (shyO a lk u 8).2.toList
  else if k = 1 then tkChild a lk u
  else (lookO a lk u).toList
/-- bits of a list of places -/
def bl : List Nat → Int32
  | [] => 0
  | p :: L => ((1 : Int32) <<< (nI p &&& 31)) ||| bl L
theorem tb_bl {L : List Nat} (h : ∀ p ∈ L, p < 32) (i : Nat) : tb (bl L) i = decide (i ∈ L) := by
  induction L with
  | nil => simp [bl, tb_0]
  | cons p L ih =>
    rw [bl, tb_or, tb_one (h p List.mem_cons_self), ih (fun q hq => h q (List.mem_cons_of_mem _ hq))]
    by_cases e : i = p <;> simp [e]
/-- one more looker in the order: behind those who aren't older -/
def insP (age : Nat → Int32) (x : Nat) (O : List Nat) : Nat → Nat
  | 0 => 0
  | i + 1 => if age x < age (O.getD i 0) then insP age x O i else i + 1
def insO (age : Nat → Int32) (x : Nat) (O : List Nat) : List Nat := O.take (insP age x O O.length) ++ x :: O.drop (insP age x O O.length)
def ordO (age : Nat → Int32) (S : Nat → Bool) : Nat → List Nat
  | 0 => []
  | n + 1 => if S n = true then insO age n (ordO age S n) else ordO age S n
/-- an evening: who takes what, what is left -/
def goT (w : Nat → Nat → Int32) : List Nat → (Nat → Int32) → Nat → List Nat
  | [], _, _ => []
  | l :: O, u, x => if x = l then tk (w 2 l) (w 3 l) (w 5 l) u else goT w O (rmL u (tk (w 2 l) (w 3 l) (w 5 l) u)) x
def goU (w : Nat → Nat → Int32) : List Nat → (Nat → Int32) → Nat → Int32
  | [], u => u
  | l :: O, u => goU w O (rmL u (tk (w 2 l) (w 3 l) (w 5 l) u))
theorem insP_le (age : Nat → Int32) (x : Nat) (O : List Nat) (i : Nat) : insP age x O i ≤ i := by
  induction i with
  | zero => exact Nat.le_refl _
  | succ i ih => simp only [insP]; split <;> omega
theorem insO_len (age : Nat → Int32) (x : Nat) (O : List Nat) : (insO age x O).length = O.length + 1 := by
  have := insP_le age x O O.length
  simp [insO, List.length_take, List.length_drop]
  omega
theorem insO_get {age : Nat → Int32} {x : Nat} {O : List Nat} {p : Nat} (hp : insP age x O O.length = p) (j : Nat) (hj : j ≤ O.length) : (insO age x O).getD j 0 = if j < p then O.getD j 0 else if j = p then x else O.getD (j - 1) 0 := by
  have hle := insP_le age x O O.length
  rw [hp] at hle
  unfold insO
  rw [hp]
  simp only [List.getD_eq_getElem?_getD]
  by_cases h1 : j < p
  · rw [if_pos h1, List.getElem?_append_left (by simp; omega), List.getElem?_take_of_lt h1]
  · rw [if_neg h1, List.getElem?_append_right (by simp; omega)]
    have e : (O.take p).length = p := by simp; omega
    rw [e]
    by_cases h2 : j = p
    · subst h2; simp
    · rw [if_neg h2]
      obtain ⟨q, hq⟩ : ∃ q, j - p = q + 1 := ⟨j - p - 1, by omega⟩
      rw [hq, List.getElem?_cons_succ, List.getElem?_drop]
      rw [show p + q = j - 1 by omega]
theorem insO_mem {age : Nat → Int32} {x y : Nat} {O : List Nat} : y ∈ insO age x O ↔ y = x ∨ y ∈ O := by
  unfold insO
  rw [List.mem_append, List.mem_cons]
  constructor
  · rintro (h | h | h)
    · exact Or.inr (List.mem_of_mem_take h)
    · exact Or.inl h
    · exact Or.inr (List.mem_of_mem_drop h)
  · rintro (h | h)
    · exact Or.inr (Or.inl h)
    · have h2 : y ∈ O.take (insP age x O O.length) ++ O.drop (insP age x O O.length) := by rw [List.take_append_drop]; exact h
      rcases List.mem_append.mp h2 with q | q
      · exact Or.inl q
      · exact Or.inr (Or.inr q)
theorem ordO_mem {age : Nat → Int32} {S : Nat → Bool} {n y : Nat} : y ∈ ordO age S n ↔ y < n ∧ S y = true := by
  induction n with
  | zero => simp [ordO]
  | succ n ih =>
    simp only [ordO]
    by_cases h : S n = true
    · rw [if_pos h, insO_mem, ih]
      constructor
      · rintro (q | ⟨q1, q2⟩)
        · subst q; exact ⟨by omega, h⟩
        · exact ⟨by omega, q2⟩
      · rintro ⟨q1, q2⟩
        by_cases e : y = n
        · exact Or.inl e
        · exact Or.inr ⟨by omega, q2⟩
    · rw [if_neg h, ih]
      constructor
      · rintro ⟨q1, q2⟩; exact ⟨by omega, q2⟩
      · rintro ⟨q1, q2⟩
        have e : y ≠ n := fun e => h (by rw [← e]; exact q2)
        exact ⟨by omega, q2⟩
theorem ordO_len {age : Nat → Int32} {S : Nat → Bool} {n : Nat} : (ordO age S n).length = cK S n := by
  induction n with
  | zero => rfl
  | succ n ih =>
    simp only [ordO, cK]
    by_cases h : S n = true
    · rw [if_pos h, if_pos h, insO_len, ih]
    · rw [if_neg h, if_neg h, ih]
theorem insO_nodup {age : Nat → Int32} {x : Nat} {O : List Nat} (h : O.Nodup) (hx : x ∉ O) : (insO age x O).Nodup := by
  unfold insO
  have h2 : (O.take (insP age x O O.length) ++ O.drop (insP age x O O.length)).Nodup := by rw [List.take_append_drop]; exact h
  have h3 := List.nodup_append.mp h2
  refine List.nodup_append.mpr ⟨h3.1, List.nodup_cons.mpr ⟨fun q => hx (List.mem_of_mem_drop q), h3.2.1⟩, ?_⟩
  intro a ha b hb
  rcases List.mem_cons.mp hb with q | q
  · subst q; intro e; subst e; exact hx (List.mem_of_mem_take ha)
  · exact h3.2.2 a ha b q
theorem ordO_nodup {age : Nat → Int32} {S : Nat → Bool} {n : Nat} : (ordO age S n).Nodup := by
  induction n with
  | zero => exact List.nodup_nil
  | succ n ih =>
    simp only [ordO]
    split
    · exact insO_nodup ih (fun q => by have := (ordO_mem.mp q).1; omega)
    · exact ih
