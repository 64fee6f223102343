/-! the class: what more to set out -/
def EK (w : Nat → Nat → Int32) (k : Nat) : List Nat := (List.range k).filter (fun p => w 1 p == -1)
theorem EK_t {w : Nat → Nat → Int32} {k : Nat} (h : w 1 k = -1) : EK w (k + 1) = EK w k ++ [k] := by
  unfold EK
  rw [List.range_succ, List.filter_append, List.filter_cons_of_pos (by simpa using h)]
  rfl
theorem EK_f {w : Nat → Nat → Int32} {k : Nat} (h : ¬ w 1 k = -1) : EK w (k + 1) = EK w k := by
  unfold EK
  rw [List.range_succ, List.filter_append, List.filter_cons_of_neg (by simpa using h)]
  simp
theorem EK_add {w : Nat → Nat → Int32} {k : Nat} : ∀ m, ∃ L, EK w (k + m) = EK w k ++ L := by
  intro m
  induction m with
  | zero => exact ⟨[], by simp⟩
  | succ m ih =>
    obtain ⟨L, e⟩ := ih
    by_cases h : w 1 (k + m) = -1
    · exact ⟨L ++ [k + m], by rw [← Nat.add_assoc, EK_t h, e, List.append_assoc]⟩
    · exact ⟨L, by rw [← Nat.add_assoc, EK_f h, e]⟩
abbrev poE (w : Nat → Nat → Int32) : List Nat := EK w 12
theorem EK_pre {w : Nat → Nat → Int32} {k : Nat} (hk : k ≤ 12) : (EK w k).length ≤ (poE w).length ∧ ∀ i, i < (EK w k).length → (poE w).getD i 0 = (EK w k).getD i 0 := by
  obtain ⟨L, e⟩ := EK_add (w := w) (k := k) (12 - k)
  rw [show k + (12 - k) = 12 by omega] at e
  show (EK w k).length ≤ (EK w 12).length ∧ ∀ i, i < (EK w k).length → (EK w 12).getD i 0 = _
  rw [e]
  refine ⟨by simp, fun i hi => ?_⟩
  rw [List.getD_eq_getElem?_getD, List.getElem?_append_left hi, List.getD_eq_getElem?_getD]
theorem poE_mem {w : Nat → Nat → Int32} {p : Nat} (h : p ∈ poE w) : p < 12 ∧ w 1 p = -1 := by
  have h2 := List.mem_filter.mp h
  exact ⟨List.mem_range.mp h2.1, by simpa using h2.2⟩
theorem poE_nodup {w : Nat → Nat → Int32} : (poE w).Nodup := List.nodup_range.sublist List.filter_sublist
theorem fsK_congr {S : Nat → Bool} {f g : Nat → Option (List Nat)} : ∀ {m : Nat}, (∀ s, s < m → f s = g s) → fsK S f m = fsK S g m := by
  intro m
  induction m with
  | zero => intro _; rfl
  | succ m ih =>
    intro h
    simp only [fsK]
    rw [ih (fun s hs => h s (by omega)), h m (by omega)]
theorem fsK_nn {S : Nat → Bool} {f : Nat → Option (List Nat)} : ∀ {m : Nat}, (∀ s, s < m → f s = none) → fsK S f m = none := by
  intro m
  induction m with
  | zero => intro _; rfl
  | succ m ih => intro h; exact fsK_n1 (ih (fun s hs => h s (by omega))) (h m (by omega))
def poL (n : Nat) (set sb : Int32) : List Nat → (Nat → Nat → Int32) → Option (List Nat)
  | [], w => if nI (gnE w n set) = jbc set then some [] else none
  | p :: E, w => fsK (tb sb) (fun s => poL n set sb E (wth w p (nI s))) 8
theorem poS_L {n : Nat} {set sb : Int32} : ∀ (k : Nat) (w : Nat → Nat → Int32), poS n set sb k w = if k ≤ (poE w).length then poL n set sb ((poE w).take k) w else none := by
  intro k
  induction k with
  | zero => intro w; rw [if_pos (Nat.zero_le _)]; simp only [poS, List.take_zero, poL]
  | succ k ih =>
    intro w
    rcases e : fem (w 1) with _ | p
    · rw [poS_n e, if_neg]
      rw [show poE w = [] from fl_nil e]
      exact Nat.not_succ_le_zero k
    · rw [poS_s e]
      have h1 : poE w = p :: (List.range 12).filter (fun q => (w 1 q == -1) && !(q == p)) := fl_cons e
      have h2 : ∀ s, s < 8 → poE (wth w p (nI s)) = (List.range 12).filter (fun q => (w 1 q == -1) && !(q == p)) := fun s hs => by
        refine fl_congr (fun q hq => ?_)
        show ((if (1 : Nat) = 1 ∧ q = p then nI s else w 1 q) == -1) = _
        by_cases c : q = p
        · rw [if_pos ⟨rfl, c⟩, c, beq_eq_false_iff_ne.mpr (j_m1 (by omega))]; simp
        · rw [if_neg (fun z => c z.2)]; simp [c]
      rw [h1]
      rw [fsK_congr (fun s hs => (ih (wth w p (nI s))).trans (by rw [h2 s hs]))]
      by_cases c : k ≤ ((List.range 12).filter (fun q => (w 1 q == -1) && !(q == p))).length
      · rw [if_pos (by rw [List.length_cons]; omega), List.take_succ_cons]
        simp only [if_pos c, poL]
      · rw [if_neg (by rw [List.length_cons]; omega)]
        exact fsK_nn (fun s hs => if_neg c)
def POL (n : Nat) (set sb : Int32) : List Nat → (Nat → Nat → Int32) → Nat → Bool
  | [], w, _ => decide (nI (gnE w n set) = jbc set)
  | p :: E, w, r => tb sb (r / 8 ^ E.length) && POL n set sb E (wth w p (nI (r / 8 ^ E.length))) (r % 8 ^ E.length)
def DL : List Nat → Nat → List Nat
  | [], _ => []
  | _ :: E, r => r / 8 ^ E.length :: DL E (r % 8 ^ E.length)
theorem fN_up {P : Nat → Bool} {a b r : Nat} (h : fN P a = some r) (hab : a ≤ b) : fN P b = some r := by
  obtain ⟨h1, h2, h3⟩ := fN_spec h
  exact fN_some (by omega) h2 h3
theorem fs_nest {S : Nat → Bool} {f : Nat → Option (List Nat)} {g : Nat → Nat → Bool} {d : Nat → List Nat} {K : Nat} (hK : 0 < K) (hf : ∀ s, f s = (fN (g s) K).map d) : ∀ m, fsK S f m = (fN (fun r => S (r / K) && g (r / K) (r % K)) (m * K)).map (fun r => r / K :: d (r % K)) := by
  intro m
  have hd : ∀ m t, t < K → (m * K + t) / K = m ∧ (m * K + t) % K = t := fun m t ht => by
    rw [Nat.mul_comm m K, Nat.mul_add_div hK, Nat.mul_add_mod, Nat.div_eq_of_lt ht, Nat.mod_eq_of_lt ht]
    exact ⟨rfl, rfl⟩
  induction m with
  | zero => rw [Nat.zero_mul, fN_none (fun j hj => absurd hj (Nat.not_lt_zero _))]; rfl
  | succ m ih =>
    have hs : (m + 1) * K = m * K + K := Nat.succ_mul m K
    rcases e : fN (fun r => S (r / K) && g (r / K) (r % K)) (m * K) with _ | r0
    · rw [e] at ih
      have e2 := fN_none_iff.mp e
      by_cases c : S m = true
      · rcases e3 : fN (g m) K with _ | t
        · have hfm : f m = none := by rw [hf, e3]; rfl
          rw [fsK_n1 ih hfm, fN_none (fun j hj => ?_)]
          · rfl
          · by_cases hj2 : j < m * K
            · exact e2 j hj2
            · obtain ⟨t, rfl⟩ := Nat.exists_eq_add_of_le (Nat.le_of_not_lt hj2)
              have h4 := hd m t (by omega)
              simp only [h4.1, h4.2]
              rw [fN_none_iff.mp e3 t (by omega), Bool.and_false]
        · have hfm : f m = some (d t) := by rw [hf, e3]; rfl
          obtain ⟨h1, h2, h3⟩ := fN_spec e3
          have h4 := hd m t h1
          rw [fsK_s ih c hfm, fN_some (k := m * K + t) (by omega) ?_ (fun j hj => ?_)]
          · show _ = some _
            simp only [h4.1, h4.2]
          · simp only [h4.1, h4.2]
            rw [c, h2]; rfl
          · by_cases hj2 : j < m * K
            · exact e2 j hj2
            · obtain ⟨t2, rfl⟩ := Nat.exists_eq_add_of_le (Nat.le_of_not_lt hj2)
              have h5 := hd m t2 (by omega)
              simp only [h5.1, h5.2]
              rw [h3 t2 (by omega), Bool.and_false]
      · rw [fsK_n2 ih c, fN_none (fun j hj => ?_)]
        · rfl
        · by_cases hj2 : j < m * K
          · exact e2 j hj2
          · obtain ⟨t, rfl⟩ := Nat.exists_eq_add_of_le (Nat.le_of_not_lt hj2)
            have h4 := hd m t (by omega)
            simp only [h4.1]
            rw [Bool.eq_false_iff.mpr c, Bool.false_and]
    · rw [e] at ih
      rw [fN_up e (by omega)]
      exact fsK_up ih (by omega)
theorem poL_f {n : Nat} {set sb : Int32} : ∀ (E : List Nat) (w : Nat → Nat → Int32), poL n set sb E w = (fN (POL n set sb E w) (8 ^ E.length)).map (DL E) := by
  intro E
  induction E with
  | nil =>
    intro w
    show (if nI (gnE w n set) = jbc set then some [] else none) = _
    by_cases c : nI (gnE w n set) = jbc set
    · rw [if_pos c, fN_some (k := 0) (by decide) (decide_eq_true c) (fun j hj => absurd hj (Nat.not_lt_zero _))]; rfl
    · rw [if_neg c, fN_none (P := POL n set sb [] w) (fun j hj => decide_eq_false c)]; rfl
  | cons p E ih =>
    intro w
    show fsK (tb sb) (fun s => poL n set sb E (wth w p (nI s))) 8 = _
    rw [fs_nest (S := tb sb) (f := fun s => poL n set sb E (wth w p (nI s))) (g := fun s => POL n set sb E (wth w p (nI s))) (d := DL E) (K := 8 ^ E.length) (Nat.pow_pos (by decide)) (fun s => ih _) 8]
    rw [List.length_cons, show 8 ^ (E.length + 1) = 8 * 8 ^ E.length by rw [Nat.pow_succ, Nat.mul_comm]]
    rfl
abbrev dgt (k r i : Nat) : Nat := r / 8 ^ (k - 1 - i) % 8
theorem dgt_mod {m r i : Nat} (h : i < m) : dgt m (r % 8 ^ m) i = dgt (m + 1) r (i + 1) := by
  show r % 8 ^ m / 8 ^ (m - 1 - i) % 8 = r / 8 ^ (m + 1 - 1 - (i + 1)) % 8
  rw [show m + 1 - 1 - (i + 1) = m - 1 - i by omega]
  have e : 8 ^ m = 8 ^ (m - 1 - i) * 8 ^ (i + 1) := by rw [← Nat.pow_add]; congr 1; omega
  rw [e, Nat.mod_mul_right_div_self]
  exact Nat.mod_mod_of_dvd _ ⟨8 ^ i, by rw [Nat.pow_succ, Nat.mul_comm]⟩
theorem dgt_0 {m r : Nat} (h : r < 8 ^ (m + 1)) : dgt (m + 1) r 0 = r / 8 ^ m := by
  show r / 8 ^ (m + 1 - 1 - 0) % 8 = _
  rw [show m + 1 - 1 - 0 = m by omega]
  refine Nat.mod_eq_of_lt (Nat.div_lt_of_lt_mul ?_)
  rw [Nat.pow_succ] at h
  exact h
theorem POL_no {n : Nat} {set sb : Int32} : ∀ (E : List Nat) (w : Nat → Nat → Int32) (r i : Nat), r < 8 ^ E.length → i < E.length → tb sb (dgt E.length r i) = false → POL n set sb E w r = false := by
  intro E
  induction E with
  | nil => intro w r i _ h _; exact absurd h (Nat.not_lt_zero _)
  | cons p E ih =>
    intro w r i hr hi ht
    show (tb sb (r / 8 ^ E.length) && POL n set sb E (wth w p (nI (r / 8 ^ E.length))) (r % 8 ^ E.length)) = false
    rcases i with _ | i
    · rw [List.length_cons, dgt_0 hr] at ht
      rw [ht, Bool.false_and]
    · rw [List.length_cons, ← dgt_mod (by simpa using hi)] at ht
      rw [ih _ _ i (Nat.mod_lt _ (Nat.pow_pos (by decide))) (by simpa using hi) ht, Bool.and_false]
theorem POL_yes {n : Nat} {set sb : Int32} : ∀ (E : List Nat) (w : Nat → Nat → Int32) (r : Nat) (W : Nat → Nat → Int32), r < 8 ^ E.length → (∀ i, i < E.length → tb sb (dgt E.length r i) = true) → (∀ i, i < E.length → W 1 (E.getD i 0) = nI (dgt E.length r i)) → (∀ c j, ¬ (c = 1 ∧ j ∈ E) → W c j = w c j) → POL n set sb E w r = decide (nI (gnE W n set) = jbc set) := by
  intro E
  induction E with
  | nil =>
    intro w r W _ _ _ h
    have e : W = w := by funext c j; exact h c j (fun z => by cases z.2)
    rw [e]; rfl
  | cons p E ih =>
    intro w r W hr ht hv hW
    show (tb sb (r / 8 ^ E.length) && POL n set sb E (wth w p (nI (r / 8 ^ E.length))) (r % 8 ^ E.length)) = _
    have t0 := ht 0 (by simp)
    have v0 := hv 0 (by simp)
    rw [List.length_cons, dgt_0 hr] at t0 v0
    rw [t0, Bool.true_and]
    refine ih _ _ W (Nat.mod_lt _ (Nat.pow_pos (by decide))) (fun i hi => ?_) (fun i hi => ?_) (fun c j q => ?_)
    · rw [dgt_mod hi]; exact ht (i + 1) (by simpa using hi)
    · rw [dgt_mod hi]; exact hv (i + 1) (by simpa using hi)
    · show W c j = if c = 1 ∧ j = p then nI (r / 8 ^ E.length) else w c j
      by_cases e : c = 1 ∧ j = p
      · obtain ⟨rfl, rfl⟩ := e
        rw [if_pos ⟨rfl, rfl⟩]; exact v0
      · rw [if_neg e]
        exact hW c j (fun z => (List.mem_cons.mp z.2).elim (fun y => e ⟨z.1, y⟩) (fun y => q ⟨z.1, y⟩))
theorem DL_len : ∀ (E : List Nat) (r : Nat), (DL E r).length = E.length := by
  intro E
  induction E with
  | nil => intro r; rfl
  | cons p E ih => intro r; show (DL E _).length + 1 = _; rw [ih]; rfl
theorem DL_get : ∀ (E : List Nat) (r i : Nat), r < 8 ^ E.length → i < E.length → (DL E r).getD i 0 = dgt E.length r i := by
  intro E
  induction E with
  | nil => intro r i _ h; exact absurd h (Nat.not_lt_zero _)
  | cons p E ih =>
    intro r i hr hi
    rcases i with _ | i
    · rw [List.length_cons, dgt_0 hr]; rfl
    · rw [List.length_cons, ← dgt_mod (by simpa using hi)]
      exact ih _ i (Nat.mod_lt _ (Nat.pow_pos (by decide))) (by simpa using hi)
theorem shl_8 {k : Nat} (h : k ≤ 3) : nI 1 <<< (nI (3 * k) &&& 31) = nI (8 ^ k) := by
  have : ∀ k, k < 4 → nI 1 <<< (nI (3 * k) &&& 31) = nI (8 ^ k) := by decide
  exact this k (by omega)
theorem p8_le {k : Nat} (h : k ≤ 3) : 8 ^ k ≤ 512 := Nat.pow_le_pow_right (by decide) h
theorem gl_all {w : Nat → Nat → Int32} {n k : Nat} (hn : n ≤ 8) (hk : k < 2 ^ n) : (bK (fun l => tb (nI k) l && gdE w n (nI k) l) n = nI k) = (nI (gnE w n (nI k)) = jbc (nI k)) := by
  have h1 : bK (tb (nI k)) n = nI k := tb_ext (fun i hi => by
    rw [tb_bK (by omega)]
    have h2 := (inQ_bits (k := n) (by omega)).mp ((inR_iff (by have := Nat.pow_le_pow_right (n := 2) (by decide) hn; omega)).mpr ⟨k, hk, rfl⟩)
    by_cases c : i < n
    · rw [decide_eq_true c, Bool.true_and]
    · rw [decide_eq_false c, Bool.false_and, h2 i (by omega) hi])
  rw [jbc_set (by omega) hk]
  have hle := cK_le (tb (nI k)) n
  have hle2 : gnE w n (nI k) ≤ n := cK_le _ _
  rw [nI_eq (by omega) (by omega)]
  refine propext ⟨fun h => ?_, fun h => ?_⟩
  · refine cK_congr (fun l hl => ?_)
    have := tb_bK (P := fun l => tb (nI k) l && gdE w n (nI k) l) (k := n) (by omega) l
    rw [h, decide_eq_true hl, Bool.true_and] at this
    exact this.symm
  · have key : ∀ (P Q : Nat → Bool) (m : Nat), (∀ l, P l = true → Q l = true) → cK P m = cK Q m → ∀ l, l < m → P l = Q l := by
      intro P Q m hPQ
      induction m with
      | zero => intro _ l hl; omega
      | succ m ih =>
        intro e l hl
        have hm := cK_mono (P := P) (Q := Q) (n := m) (fun l _ z => hPQ l z)
        have e2 : cK P m = cK Q m ∧ P m = Q m := by
          by_cases c1 : P m = true
          · have c2 := hPQ m c1
            rw [cK_t c1, cK_t c2] at e
            exact ⟨by omega, c1.trans c2.symm⟩
          · rw [cK_f c1] at e
            by_cases c2 : Q m = true
            · rw [cK_t c2] at e; omega
            · rw [cK_f c2] at e
              exact ⟨e, (Bool.eq_false_iff.mpr c1).trans (Bool.eq_false_iff.mpr c2).symm⟩
        rcases Nat.lt_succ_iff_lt_or_eq.mp hl with z | z
        · exact ih e2.1 l z
        · rw [z]; exact e2.2
    rw [← h1]
    rw [h1]
    refine (bK_congr (fun l hl => ?_)).trans h1
    exact key (fun l => tb (nI k) l && gdE w n (nI k) l) (tb (nI k)) n (fun l z => (Bool.and_eq_true_iff.mp z).1) h l hl

set_option maxRecDepth 100000 in
theorem dg_eq {r e : Nat} (hr : r < 512) (he : e < 3) : nI r >>> (nI (3 * e) &&& 31) &&& nI 7 = nI (r / 8 ^ e % 8) := by
  have h0 : ∀ r, r < 512 → nI r >>> (nI (3 * 0) &&& 31) &&& nI 7 = nI (r / 8 ^ 0 % 8) := by decide
  have h1 : ∀ r, r < 512 → nI r >>> (nI (3 * 1) &&& 31) &&& nI 7 = nI (r / 8 ^ 1 % 8) := by decide
  have h2 : ∀ r, r < 512 → nI r >>> (nI (3 * 2) &&& 31) &&& nI 7 = nI (r / 8 ^ 2 % 8) := by decide
  rcases (show e = 0 ∨ e = 1 ∨ e = 2 by omega) with rfl | rfl | rfl
  · exact h0 r hr
  · exact h1 r hr
  · exact h2 r hr
