/-! bits of places -/
theorem bK_n {P : Nat → Bool} : ∃ m, m < 4096 ∧ bK P 12 = nI m ∧ ∀ p, p < 12 → m.testBit p = P p := by
  have h : inQ (2 ^ 12) (bK P 12) = true := (inQ_bits (by decide)).mpr (fun i h1 h2 => by rw [tb_bK (by decide), decide_eq_false (by omega), Bool.false_and])
  obtain ⟨m, h1, h2⟩ := inR_of (by decide) h
  refine ⟨m, h1, h2, fun p hp => ?_⟩
  have h3 := tb_bK (P := P) (k := 12) (by decide) p
  rw [h2, tb_nI (by omega), decide_eq_true hp, Bool.true_and] at h3
  exact h3
theorem lob_n : ∀ k, k < 4096 → jlob (nI k) = bl ((List.range 12).find? (fun p => k.testBit p)).toList := j_4096 _ (by decide +kernel)
theorem hob_n : ∀ k, k < 4096 → jhob (nI k) = bl (lK (fun p => k.testBit p) 12).toList := j_4096 _ (by decide +kernel)
theorem lob_bK {P : Nat → Bool} : jlob (bK P 12) = bl (fP P).toList := by
  obtain ⟨m, h1, h2, h3⟩ := bK_n (P := P)
  rw [h2, lob_n m h1]
  congr 2
  exact fP_congr (P := fun p => m.testBit p) h3
theorem hob_bK {P : Nat → Bool} : jhob (bK P 12) = bl (lP P).toList := by
  obtain ⟨m, h1, h2, h3⟩ := bK_n (P := P)
  rw [h2, hob_n m h1]
  congr 2
  exact lK_congr (P := fun p => m.testBit p) h3
theorem jbc_bK {P : Nat → Bool} : jbc (bK P 12) = nI (cP P) := by
  obtain ⟨m, h1, h2, h3⟩ := bK_n (P := P)
  rw [h2, jbc_n m h1, show cP P = cK (fun i => m.testBit i) 12 from (cP_congr h3).symm]
theorem bK_0 {P : Nat → Bool} : (bK P 12 = 0) = (fP P = none) := by
  rw [propext fP_none_iff]
  refine propext ⟨fun h j hj => ?_, fun h => tb_ext (fun i hi => ?_)⟩
  · have h2 := tb_bK (P := P) (k := 12) (by decide) j
    rw [h, tb_0, decide_eq_true hj, Bool.true_and] at h2
    exact h2.symm
  · rw [tb_bK (by decide), tb_0]
    by_cases q : i < 12
    · rw [h i q, Bool.and_false]
    · rw [decide_eq_false q, Bool.false_and]
theorem bl_1 {p : Nat} : bl [p] = ((1 : Int32) <<< (nI p &&& 31)) := by
  show _ ||| (0 : Int32) = _
  simp
theorem ntz_1 {p : Nat} (h : p < 12) : jntz (bl [p]) = nI p := by
  have : ∀ p, p < 12 → jntz (bl [p]) = nI p := by decide +kernel
  exact this p h
theorem bl1_ne {p : Nat} (h : p < 12) : ¬ bl [p] = 0 := by
  have : ∀ p, p < 12 → ¬ bl [p] = 0 := by decide +kernel
  exact this p h
/-- what is left is some of what was there -/
def UU (w : Nat → Nat → Int32) (u : Nat → Int32) : Prop := ∀ p, p < 12 → u p = w 1 p ∨ u p = -1
theorem UU.self {w : Nat → Nat → Int32} : UU w (w 1) := fun _ _ => Or.inl rfl
theorem UU.rm {w : Nat → Nat → Int32} {u : Nat → Int32} {L : List Nat} (h : UU w u) : UU w (rmL u L) := fun p hp => by
  unfold rmL
  by_cases q : p ∈ L
  · rw [if_pos q]; exact Or.inr rfl
  · rw [if_neg q]; exact h p hp
theorem UU.go {w : Nat → Nat → Int32} {O : List Nat} : ∀ {u : Nat → Int32}, UU w u → UU w (goU w O u) := by
  induction O with
  | nil => exact fun h => h
  | cons a O ih => exact fun h => ih h.rm
theorem tb_bK12 {P : Nat → Bool} (i : Nat) : tb (bK P 12) i = (decide (i < 12) && P i) := tb_bK (by decide) i
theorem bK_and {P Q R : Nat → Bool} (h : ∀ p, p < 12 → (P p && Q p) = R p) : bK P 12 &&& bK Q 12 = bK R 12 := tb_ext (fun i _ => by
  rw [tb_and, tb_bK12, tb_bK12, tb_bK12]
  by_cases q : i < 12
  · rw [decide_eq_true q, Bool.true_and, Bool.true_and, Bool.true_and, h i q]
  · rw [decide_eq_false q, Bool.false_and, Bool.false_and, Bool.false_and])
theorem nIm1 {a : Nat} (h : a < 2 ^ 31) : ((-1 : Int32) == nI a) = false := by
  have := j_m1 h
  simp only [beq_eq_false_iff_ne]
  exact fun z => this z.symm
theorem pw_there {w : Nat → Nat → Int32} {u : Nat → Int32} {a : Nat} (ha : a < 8) (h : UU w u) : pwB w a &&& lfB u = bK (fun p => u p == nI a) 12 := bK_and (fun p hp => by
  rcases h p hp with q | q
  · rw [q]
    by_cases z : w 1 p = -1
    · rw [z, nIm1 (by omega)]; rfl
    · have : (w 1 p == -1) = false := by simpa using z
      rw [this]; simp
  · rw [q, nIm1 (by omega)]; simp)
def paK (w : Nat → Nat → Int32) (sb : Int32) : Nat → Int32
  | 0 => 0
  | s + 1 => if tb sb s = true then paK w sb s ||| pwB w s else paK w sb s
theorem paK_t {w : Nat → Nat → Int32} {sb : Int32} {s : Nat} (h : tb sb s = true) : paK w sb (s + 1) = paK w sb s ||| pwB w s := if_pos h
theorem paK_f {w : Nat → Nat → Int32} {sb : Int32} {s : Nat} (h : ¬ tb sb s = true) : paK w sb (s + 1) = paK w sb s := if_neg h
theorem tb_paK {w : Nat → Nat → Int32} {sb : Int32} {k : Nat} (i : Nat) : tb (paK w sb k) i = (decide (i < 12) && (List.range k).any (fun s => tb sb s && w 1 i == nI s)) := by
  induction k with
  | zero => rw [show paK w sb 0 = 0 from rfl, tb_0]; simp
  | succ k ih =>
    rw [List.range_succ, List.any_append, List.any_cons, List.any_nil, Bool.or_false]
    by_cases h : tb sb k = true
    · rw [paK_t h, tb_or, ih, show tb (pwB w k) i = (decide (i < 12) && (w 1 i == nI k)) from tb_bK12 i, h, Bool.true_and, Bool.and_or_distrib_left]
    · have h2 : tb sb k = false := by simpa using h
      rw [paK_f h, ih, h2, Bool.false_and, Bool.or_false]
/-- a sort is among those that one with a and likes lk takes -/
theorem wanted_tb {lk : Int32} {a s : Nat} (ha : a < 8) (hs : s < 8) : tb (lk ||| ((1 : Int32) <<< (nI a &&& 31))) s = likB (nI a) lk (nI s) := by
  rw [tb_or, tb_one (by omega)]
  refine Bool.eq_iff_iff.mpr ?_
  rw [likB_iff]
  have h1 : ¬ nI s = -1 := j_m1 (by omega)
  have h2 : (nI s = nI a) = (s = a) := propext (nI_eq (by omega) (by omega))
  rw [h2, tb_in (by omega)]
  simp only [h1, not_false_eq_true, true_and, Bool.or_eq_true, decide_eq_true_eq]
  exact Or.comm
theorem pa_there {w : Nat → Nat → Int32} {u : Nat → Int32} {lk : Int32} {a : Nat} (ha : a < 8) (h : UU w u) (ht : ∀ p, p < 12 → TH (w 1 p)) : paK w (lk ||| ((1 : Int32) <<< (nI a &&& 31))) 8 &&& lfB u = bK (fun p => likB (nI a) lk (u p)) 12 := tb_ext (fun i _ => by
  rw [tb_and, tb_paK, show tb (lfB u) i = (decide (i < 12) && !(u i == -1)) from tb_bK12 i, tb_bK12]
  by_cases q : i < 12
  · rw [decide_eq_true q, Bool.true_and, Bool.true_and, Bool.true_and]
    have hm : likB (nI a) lk (-1) = false := by
      refine Bool.eq_false_iff.mpr (fun z => (likB_iff.mp z).1 rfl)
    rcases h i q with z | z
    · rw [z]
      rcases ht i q with y | ⟨s, hs, y⟩
      · rw [y, hm]; simp
      · rw [y]
        have e1 : (nI s == (-1 : Int32)) = false := by have := j_m1 (show s < 2 ^ 31 by omega); simpa using this
        rw [e1, Bool.not_false, Bool.and_true, ← wanted_tb ha hs]
        refine Bool.eq_iff_iff.mpr ?_
        rw [List.any_eq_true]
        refine ⟨fun ⟨s2, h1, h2⟩ => ?_, fun h1 => ⟨s, List.mem_range.mpr hs, by rw [h1]; simp⟩⟩
        have h3 := List.mem_range.mp h1
        rw [Bool.and_eq_true, beq_iff_eq] at h2
        have h4 : s = s2 := (nI_eq (by omega) (by omega)).mp h2.2
        rw [h4]; exact h2.1
    · rw [z, hm]; simp
  · rw [decide_eq_false q, Bool.false_and, Bool.false_and, Bool.false_and])
def ttS (best wanted : Int32) : Int32 := jlob (if best = 0 then wanted else best) ||| (if best &&& (jlob (if best = 0 then wanted else best) ^^^ (-1)) = 0 then jlob (wanted &&& (jlob (if best = 0 then wanted else best) ^^^ (-1))) else jlob (best &&& (jlob (if best = 0 then wanted else best) ^^^ (-1))))
theorem bl_app (A B : List Nat) : bl (A ++ B) = bl A ||| bl B := by
  induction A with
  | nil => show bl B = 0 ||| bl B; simp
  | cons a A ih => show _ ||| bl (A ++ B) = (_ ||| bl A) ||| bl B; rw [ih, Int32.or_assoc]
/-- a row of places without one -/
theorem bK_but {P : Nat → Bool} {L : List Nat} (hL : ∀ p ∈ L, p < 12) : bK P 12 &&& (bl L ^^^ (-1)) = bK (fun p => P p && !(decide (p ∈ L))) 12 := tb_ext (fun i hi => by
  rw [tb_and, tb_xor, tb_m1 hi, tb_bl (fun p hp => by have := hL p hp; omega), tb_bK12, tb_bK12]
  cases decide (i < 12) <;> cases P i <;> cases decide (i ∈ L) <;> rfl)
theorem lob_if {P Q : Nat → Bool} : jlob (if bK P 12 = 0 then bK Q 12 else bK P 12) = bl (match fP P with
    | some p => some p
    | none => fP Q).toList := by
  rcases e : fP P with _ | p
  · rw [if_pos (by rw [bK_0]; exact e), lob_bK]
  · rw [if_neg (by rw [bK_0, e]; simp), lob_bK, e]
theorem rmB {u : Nat → Int32} {a lk : Int32} {L : List Nat} (ha : ¬ a = -1) : (fun p => (u p == a) && !(decide (p ∈ L))) = (fun p => rmL u L p == a) ∧ (fun p => likB a lk (u p) && !(decide (p ∈ L))) = (fun p => likB a lk (rmL u L p)) := by
  have h1 : ((-1 : Int32) == a) = false := by simp only [beq_eq_false_iff_ne]; exact fun z => ha z.symm
  have h2 : likB a lk (-1) = false := Bool.eq_false_iff.mpr (fun z => (likB_iff.mp z).1 rfl)
  refine ⟨funext fun p => ?_, funext fun p => ?_⟩
  · by_cases q : p ∈ L
    · rw [show rmL u L p = -1 from if_pos q, h1, decide_eq_true q]; simp
    · rw [show rmL u L p = u p from if_neg q, decide_eq_false q]; simp
  · by_cases q : p ∈ L
    · rw [show rmL u L p = -1 from if_pos q, h2, decide_eq_true q]; simp
    · rw [show rmL u L p = u p from if_neg q, decide_eq_false q]; simp
theorem tt_eq {u : Nat → Int32} {a lk : Int32} (ha : ¬ a = -1) : ttS (bK (fun p => u p == a) 12) (bK (fun p => likB a lk (u p)) 12) = bl (tkChild a lk u) := by
  have e1 : jlob (if bK (fun p => u p == a) 12 = 0 then bK (fun p => likB a lk (u p)) 12 else bK (fun p => u p == a) 12) = bl (lookO a lk u).toList := lob_if
  have hl : ∀ p ∈ (lookO a lk u).toList, p < 12 := fun p hp => lookO_lt p (by simpa using hp)
  unfold ttS tkChild
  rw [e1, bl_app, bK_but hl, bK_but hl]
  congr 1
  obtain ⟨r1, r2⟩ := rmB (u := u) (lk := lk) (L := (lookO a lk u).toList) ha
  rw [r1, r2]
  have e2 : lookO a lk (rmL u (lookO a lk u).toList) = (match fP (fun p => rmL u (lookO a lk u).toList p == a) with
    | some p => some p
    | none => fP (fun p => likB a lk (rmL u (lookO a lk u).toList p))) := rfl
  rw [e2]
  rcases e : fP (fun p => rmL u (lookO a lk u).toList p == a) with _ | p
  · rw [if_pos (by rw [bK_0]; exact e), lob_bK]
  · rw [if_neg (by rw [bK_0, e]; simp), lob_bK, e]
theorem bl_filter {P : Nat → Bool} : bl ((List.range 12).filter P) = bK P 12 := tb_ext (fun i hi => by
  rw [tb_bl (fun p hp => by have := List.mem_range.mp (List.mem_filter.mp hp).1; omega), tb_bK12]
  refine Bool.eq_iff_iff.mpr ?_
  simp [List.mem_filter])
/-- no other place has a thing of the sort that is in this one -/
def ioB (w : Nat → Nat → Int32) (bit there : Int32) : Bool := (List.range 8).any (fun s => pwB w s &&& there == bit)
theorem cP_one {P : Nat → Bool} {p : Nat} (hp : p < 12) (hP : P p = true) : (bK P 12 = bl [p]) = (¬ 1 < cP P) := by
  have hc : bK P 12 = bl [p] → cP P = 1 := by
    intro h
    have h1 := jbc_bK (P := P)
    rw [h] at h1
    have h2 : jbc (bl [p]) = nI 1 := by
      have : ∀ p, p < 12 → jbc (bl [p]) = nI 1 := by decide +kernel
      exact this p hp
    rw [h2] at h1
    exact ((nI_eq (by decide) cP_b).mp h1).symm
  refine propext ⟨fun h => by rw [hc h]; decide, fun h => tb_ext (fun i hi => ?_)⟩
  rw [tb_bK12, tb_bl (fun q hq => by rw [List.mem_singleton.mp hq]; omega)]
  refine Bool.eq_iff_iff.mpr ?_
  rw [Bool.and_eq_true, decide_eq_true_eq, decide_eq_true_eq, List.mem_singleton]
  refine ⟨fun ⟨h1, h2⟩ => ?_, fun h1 => by subst h1; exact ⟨hp, hP⟩⟩
  by_cases e : i = p
  · exact e
  · exfalso
    apply h
    have two : ∀ n x y, x < y → y < n → P x = true → P y = true → 1 < cK P n := by
      intro n
      induction n with
      | zero => intro x y _ h0; omega
      | succ n ih =>
        intro x y hxy hy hx hpy
        by_cases ey : y = n
        · subst ey
          have one : ∀ n x, x < n → P x = true → 0 < cK P n := by
            intro n
            induction n with
            | zero => intro x h0; omega
            | succ n ih2 =>
              intro x hx hpx
              by_cases ex : x = n
              · subst ex; rw [cK_t hpx]; omega
              · have := ih2 x (by omega) hpx
                by_cases hpn : P n = true
                · rw [cK_t hpn]; omega
                · rw [cK_f hpn]; exact this
          have := one y x hxy hx
          rw [cK_t hpy]; omega
        · have := ih x y hxy (by omega) hx hpy
          by_cases hpn : P n = true
          · rw [cK_t hpn]; omega
          · rw [cK_f hpn]; exact this
    rcases Nat.lt_or_ge i p with q | q
    · exact two 12 i p q hp h2 hP
    · exact two 12 p i (by omega) h1 hP h2
theorem io_eq {w : Nat → Nat → Int32} {u : Nat → Int32} {p : Nat} (h : UU w u) (ht : ∀ p, p < 12 → TH (w 1 p)) (hp : p < 12) (hu : ¬ u p = -1) : (ioB w (bl [p]) (lfB u) = true) = (¬ 1 < cP (fun q => u q == u p)) := by
  have h1 : u p = w 1 p := (h p hp).resolve_right hu
  obtain ⟨s, hs, e⟩ := (ht p hp).resolve_left (by rw [← h1]; exact hu)
  have e2 : u p = nI s := h1.trans e
  rw [← cP_one (P := fun q => u q == u p) hp (by simp), e2]
  refine propext ⟨fun z => ?_, fun z => ?_⟩
  · obtain ⟨s2, h3, h4⟩ := List.any_eq_true.mp z
    have h5 := List.mem_range.mp h3
    rw [beq_iff_eq, pw_there h5 h] at h4
    have h6 := tb_bK12 (P := fun q => u q == nI s2) p
    rw [h4, tb_bl (fun q hq => by rw [List.mem_singleton.mp hq]; omega), decide_eq_true (List.mem_singleton.mpr rfl), decide_eq_true hp, Bool.true_and, e2] at h6
    have h7 : s = s2 := (nI_eq (by omega) (by omega)).mp (by simpa using h6.symm)
    rw [h7]; exact h4
  · refine List.any_eq_true.mpr ⟨s, List.mem_range.mpr hs, ?_⟩
    rw [beq_iff_eq, pw_there hs h]
    exact z
def pmK (w : Nat → Nat → Int32) (sb there : Int32) : Nat → Int32
  | 0 => 0
  | s + 1 => if tb sb s = true ∧ jbc (pmK w sb there s) < jbc (pwB w s &&& there) then pwB w s &&& there else pmK w sb there s
theorem pmK_t {w : Nat → Nat → Int32} {sb there : Int32} {s : Nat} (h1 : tb sb s = true) (h2 : jbc (pmK w sb there s) < jbc (pwB w s &&& there)) : pmK w sb there (s + 1) = pwB w s &&& there := if_pos ⟨h1, h2⟩
theorem pmK_f {w : Nat → Nat → Int32} {sb there : Int32} {s : Nat} (h : ¬ (tb sb s = true ∧ jbc (pmK w sb there s) < jbc (pwB w s &&& there))) : pmK w sb there (s + 1) = pmK w sb there s := if_neg h
theorem pm_eq {w : Nat → Nat → Int32} {u : Nat → Int32} {lk : Int32} {a : Nat} (ha : a < 8) (h : UU w u) : ∀ s, s ≤ 8 → jbc (pmK w (lk ||| ((1 : Int32) <<< (nI a &&& 31))) (lfB u) s) = nI (shyO (nI a) lk u s).1 ∧ jlob (pmK w (lk ||| ((1 : Int32) <<< (nI a &&& 31))) (lfB u) s) = bl (shyO (nI a) lk u s).2.toList := by
  intro s
  induction s with
  | zero => intro _; exact ⟨show jbc 0 = nI 0 by decide, show jlob 0 = 0 by decide⟩
  | succ s ih =>
    intro hs
    obtain ⟨h1, h2⟩ := ih (by omega)
    have h3 : (tb (lk ||| ((1 : Int32) <<< (nI a &&& 31))) s = true) = (likB (nI a) lk (nI s) = true) := by rw [wanted_tb ha (by omega)]
    have h4 : (jbc (pmK w (lk ||| ((1 : Int32) <<< (nI a &&& 31))) (lfB u) s) < jbc (pwB w s &&& lfB u)) = ((shyO (nI a) lk u s).1 < cP (fun p => u p == nI s)) := by
      rw [h1, pw_there (by omega) h, jbc_bK]
      exact propext (nI_ltI shyO_b cP_b)
    by_cases c : likB (nI a) lk (nI s) = true ∧ (shyO (nI a) lk u s).1 < cP (fun p => u p == nI s)
    · rw [shyO_t c.1 c.2, pmK_t (by rw [h3]; exact c.1) (by rw [h4]; exact c.2), pw_there (by omega) h]
      exact ⟨jbc_bK, lob_bK⟩
    · rw [shyO_f c, pmK_f (by rw [h3, h4]; exact c)]
      exact ⟨h1, h2⟩
theorem bl_bK {L : List Nat} (h : ∀ p ∈ L, p < 12) : bl L = bK (fun p => decide (p ∈ L)) 12 := tb_ext (fun i hi => by
  rw [tb_bl (fun p hp => by have := h p hp; omega), tb_bK12]
  refine Bool.eq_iff_iff.mpr ?_
  rw [Bool.and_eq_true, decide_eq_true_eq, decide_eq_true_eq]
  exact ⟨fun z => ⟨h i z, z⟩, fun z => z.2⟩)
/-- of some places the first that one takes -/
def ftS (best taken : Int32) : Int32 := if jlob (if best = 0 then taken else best) = 0 then -1 else jntz (jlob (if best = 0 then taken else best))
theorem ft_0 {w : Nat → Nat → Int32} {a : Nat} {T : List Nat} (hT : ∀ p ∈ T, p < 12) : ftS (pwB w a &&& bl T) (bl T) = o2i (match fP (fun p => w 1 p == nI a && decide (p ∈ T)) with
    | some p => some p
    | none => fP (fun p => decide (p ∈ T))) := by
  have e1 : pwB w a &&& bl T = bK (fun p => w 1 p == nI a && decide (p ∈ T)) 12 := by
    rw [bl_bK hT]
    exact bK_and (fun p _ => rfl)
  unfold ftS
  rw [e1, bl_bK hT, lob_if]
  generalize hz : (match fP (fun p => w 1 p == nI a && decide (p ∈ T)) with
    | some p => some p
    | none => fP (fun p => decide (p ∈ T))) = o
  have ho : ∀ p, o = some p → p < 12 := by
    intro p hp
    rw [hp] at hz
    split at hz
    · rename_i q hq; cases hz; exact fP_lt p hq
    · exact fP_lt p hz
  cases o with
  | none => exact if_pos rfl
  | some p => exact (if_neg (bl1_ne (ho p rfl))).trans (ntz_1 (ho p rfl))
theorem fP_mem {T : List Nat} {P : Nat → Bool} {p : Nat} (h : p < 12) (hp : P p = true) (hm : p ∈ T) (hl : ∀ q, q < p → P q = true → q ∉ T) : fP (fun p => P p && decide (p ∈ T)) = some p := fP_some h (by rw [hp, decide_eq_true hm]; rfl) (fun j hj => by
  by_cases z : P j = true
  · rw [decide_eq_false (hl j hj z), Bool.and_false]
  · have : P j = false := by simpa using z
    rw [this, Bool.false_and])
theorem ft_hd {w : Nat → Nat → Int32} {a : Nat} {T : List Nat} {p1 : Nat} {R : List Nat} (hT : ∀ p ∈ T, p < 12) (e : T = p1 :: R) (h : (w 1 p1 = nI a ∧ ∀ p ∈ T, w 1 p = nI a → p1 ≤ p) ∨ ((∀ p ∈ T, ¬ w 1 p = nI a) ∧ ∀ p ∈ T, p1 ≤ p)) : ftS (pwB w a &&& bl T) (bl T) = o2i T.head? := by
  have hm : p1 ∈ T := by rw [e]; exact List.mem_cons_self
  rw [ft_0 hT]
  have hh : T.head? = some p1 := by rw [e]; rfl
  rw [hh]
  rcases h with ⟨h1, h2⟩ | ⟨h1, h2⟩
  · rw [fP_mem (P := fun p => w 1 p == nI a) (hT p1 hm) (by simpa using h1) hm (fun q hq hp hqm => by have := h2 q hqm (by simpa using hp); omega)]
  · rw [fP_none (P := fun p => w 1 p == nI a && decide (p ∈ T)) (fun j _ => by
      by_cases z : j ∈ T
      · have : (w 1 j == nI a) = false := by simpa using h1 j z
        rw [this, Bool.false_and]
      · rw [decide_eq_false z, Bool.and_false])]
    simp only []
    rw [fP_some (hT p1 hm) (decide_eq_true hm) (fun j hj => decide_eq_false (fun z => by have := h2 j z; omega))]
theorem ft_nil {w : Nat → Nat → Int32} {a : Nat} : ftS (pwB w a &&& bl []) (bl []) = -1 := by
  rw [ft_0 (fun p hp => by cases hp)]
  rw [fP_none (P := fun p => w 1 p == nI a && decide (p ∈ [])) (fun j _ => by simp)]
  simp only []
  rw [fP_none (fun j _ => by simp)]
  rfl
theorem ft_one {w : Nat → Nat → Int32} {a p : Nat} (hp : p < 12) : ftS (pwB w a &&& bl [p]) (bl [p]) = nI p := by
  refine ft_hd (T := [p]) (fun q hq => by rw [List.mem_singleton.mp hq]; exact hp) rfl ?_
  by_cases h : w 1 p = nI a
  · exact Or.inl ⟨h, fun q hq _ => by rw [List.mem_singleton.mp hq]; exact Nat.le_refl _⟩
  · exact Or.inr ⟨fun q hq => by rw [List.mem_singleton.mp hq]; exact h, fun q hq => by rw [List.mem_singleton.mp hq]; exact Nat.le_refl _⟩
theorem ft_opt {w : Nat → Nat → Int32} {a : Nat} {o : Option Nat} (ho : ∀ p, o = some p → p < 12) : ftS (pwB w a &&& bl o.toList) (bl o.toList) = o2i o.toList.head? := by
  cases o with
  | none => exact ft_nil
  | some p => exact ft_one (ho p rfl)
theorem lookO_sp {u : Nat → Int32} {a lk : Int32} {p : Nat} (h : lookO a lk u = some p) : p < 12 ∧ ((u p = a ∧ ∀ q, u q = a → q < 12 → p ≤ q) ∨ ((∀ q, q < 12 → ¬ u q = a) ∧ likB a lk (u p) = true ∧ ∀ q, likB a lk (u q) = true → q < 12 → p ≤ q)) := by
  have hp := lookO_lt p h
  refine ⟨hp, ?_⟩
  unfold lookO at h
  rcases e : fP (fun p => u p == a) with _ | p2
  · rw [e] at h
    obtain ⟨h1, h2, h3⟩ := fP_spec h
    refine Or.inr ⟨fun q hq z => ?_, h2, fun q hq hq2 => ?_⟩
    · have := fP_none_iff.mp e q hq
      rw [z] at this; simp at this
    · rcases Nat.lt_or_ge q p with z | z
      · have := h3 q z; rw [this] at hq; cases hq
      · exact z
  · rw [e] at h
    cases h
    obtain ⟨h1, h2, h3⟩ := fP_spec e
    refine Or.inl ⟨by simpa using h2, fun q hq hq2 => ?_⟩
    rcases Nat.lt_or_ge q p with z | z
    · have := h3 q z; rw [hq] at this; simp at this
    · exact z
theorem ft_child {w : Nat → Nat → Int32} {u : Nat → Int32} {lk : Int32} {a : Nat} (ha : a < 8) (h : UU w u) : ftS (pwB w a &&& bl (tkChild (nI a) lk u)) (bl (tkChild (nI a) lk u)) = o2i (tkChild (nI a) lk u).head? := by
  have ha1 : ¬ nI a = -1 := j_m1 (by omega)
  have hne : ∀ p ∈ tkChild (nI a) lk u, ¬ u p = -1 := fun p hp => tkChild_ne ha1 hp
  have hlt : ∀ p ∈ tkChild (nI a) lk u, p < 12 := by
    intro p hp
    unfold tkChild at hp
    rcases List.mem_append.mp hp with z | z
    · exact lookO_lt p (by simpa using z)
    · exact lookO_lt p (by simpa using z)
  have hu : ∀ p ∈ tkChild (nI a) lk u, u p = w 1 p := fun p hp => (h p (hlt p hp)).resolve_right (hne p hp)
  rcases e : lookO (nI a) lk u with _ | p1
  · have e2 : tkChild (nI a) lk u = [] := by
      unfold tkChild
      rw [e]
      show [] ++ (lookO (nI a) lk (rmL u [])).toList = []
      rw [rmL_nil, e]; rfl
    rw [e2]; exact ft_nil
  · rcases e2 : lookO (nI a) lk (rmL u [p1]) with _ | p2
    · have e3 : tkChild (nI a) lk u = [p1] := by
        unfold tkChild
        rw [e]
        show [p1] ++ (lookO (nI a) lk (rmL u [p1])).toList = [p1]
        rw [e2]; rfl
      rw [e3]; exact ft_one (lookO_lt p1 e)
    · have e3 : tkChild (nI a) lk u = [p1, p2] := by
        unfold tkChild
        rw [e]
        show [p1] ++ (lookO (nI a) lk (rmL u [p1])).toList = [p1, p2]
        rw [e2]; rfl
      obtain ⟨h1, h2⟩ := lookO_sp e
      have hp2 := lookO_lt p2 e2
      have hm1 : p1 ∈ tkChild (nI a) lk u := by rw [e3]; exact List.mem_cons_self
      have hm2 : p2 ∈ tkChild (nI a) lk u := by rw [e3]; exact List.mem_cons_of_mem _ List.mem_cons_self
      have hcase : ∀ q ∈ tkChild (nI a) lk u, q = p1 ∨ q = p2 := fun q hq => by
        rw [e3] at hq
        simpa using hq
      refine ft_hd hlt e3 ?_
      rcases h2 with ⟨h3, h4⟩ | ⟨h3, h4, h5⟩
      · exact Or.inl ⟨(hu p1 hm1).symm.trans h3, fun q hq hqa => h4 q ((hu q hq).trans hqa) (hlt q hq)⟩
      · refine Or.inr ⟨fun q hq hqa => h3 q (hlt q hq) ((hu q hq).trans hqa), fun q hq => ?_⟩
        rcases hcase q hq with rfl | rfl
        · exact Nat.le_refl _
        · refine h5 q ?_ hp2
          obtain ⟨-, z⟩ := lookO_sp e2
          have hq1 : rmL u [p1] q = u q := by
            unfold rmL
            rw [if_neg]
            intro y
            have y2 := List.mem_singleton.mp y
            have y3 := lookO_ne ha1 e2
            exact y3 (if_pos y)
          rcases z with ⟨z, -⟩ | ⟨-, z, -⟩
          · rw [hq1] at z; exact absurd z (h3 q hp2)
          · rw [hq1] at z; exact z
theorem fl_head {P : Nat → Bool} : ((List.range 12).filter P).head? = fP P := by
  rcases e : fP P with _ | p
  · rw [fl_nil e]; rfl
  · rw [fl_cons e]; rfl
theorem ft_tk {w : Nat → Nat → Int32} {u : Nat → Int32} {k lk : Int32} {a : Nat} (ha : a < 8) (h : UU w u) : ftS (pwB w a &&& bl (tk k (nI a) lk u)) (bl (tk k (nI a) lk u)) = o2i (tk k (nI a) lk u).head? := by
  by_cases h2 : k = 2
  · rw [tk_2 h2]; exact ft_opt lP_lt
  by_cases h3 : k = 3
  · by_cases hg : fP (fun p => u p == nI a) = none
    · rw [tk_3n h3 hg]; exact ft_child ha h
    · rw [tk_3s h3 hg]
      rcases e : fP (fun p => u p == nI a) with _ | p
      · exact absurd e hg
      · obtain ⟨s1, s2, s3⟩ := fP_spec e
        refine ft_hd (fun q hq => List.mem_range.mp (List.mem_filter.mp hq).1) (fl_cons e) (Or.inl ⟨?_, fun q hq _ => ?_⟩)
        · have e1 : u p = nI a := by simpa using s2
          rw [← (h p s1).resolve_right (by rw [e1]; exact j_m1 (by omega)), e1]
        · rcases Nat.lt_or_ge q p with z | z
          · have := s3 q z
            rw [(List.mem_filter.mp hq).2] at this; cases this
          · exact z
  by_cases h4 : k = 4
  · rw [tk_4 h4]
    rcases e : lP (fun p => likB (nI a) lk (u p)) with _ | p
    · exact ft_nil
    · simp only []
      split
      · exact ft_one (lP_lt p e)
      · exact ft_nil
  by_cases h5 : k = 5
  · rw [tk_5 h5]; exact ft_opt shyO_lt
  by_cases h1 : k = 1
  · rw [tk_1 h1]; exact ft_child ha h
  rw [tk_0 h2 h3 h4 h5 h1]
  exact ft_opt lookO_lt
