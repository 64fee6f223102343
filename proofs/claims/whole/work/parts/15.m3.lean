/-! the reference's methods: an evening -/
theorem tk_lt {k a lk : Int32} {u : Nat → Int32} {p : Nat} (h : p ∈ tk k a lk u) : p < 12 := by
  have hc : ∀ q, q ∈ tkChild a lk u → q < 12 := by
    intro q hq
    unfold tkChild at hq
    rcases List.mem_append.mp hq with z | z
    · exact lookO_lt q (by simpa using z)
    · exact lookO_lt q (by simpa using z)
  unfold tk at h
  split at h
  · exact lP_lt p (by simpa using h)
  split at h
  · split at h
    · exact hc p h
    · exact List.mem_range.mp (List.mem_filter.mp h).1
  split at h
  · split at h
    · cases h
    · rename_i q hq
      split at h
      · rw [List.mem_singleton.mp h]; exact lP_lt q hq
      · cases h
  split at h
  · exact shyO_lt p (by simpa using h)
  split at h
  · exact hc p h
  · exact lookO_lt p (by simpa using h)
theorem cK_congr {P Q : Nat → Bool} {n : Nat} (h : ∀ p, p < n → P p = Q p) : cK P n = cK Q n := by
  induction n with
  | zero => rfl
  | succ n ih => simp only [cK]; rw [ih (fun p hp => h p (by omega)), h n (by omega)]
theorem lK_congr {P Q : Nat → Bool} {n : Nat} (h : ∀ p, p < n → P p = Q p) : lK P n = lK Q n := by
  induction n with
  | zero => rfl
  | succ n ih => simp only [lK]; rw [ih (fun p hp => h p (by omega)), h n (by omega)]
theorem fP_congr {P Q : Nat → Bool} (h : ∀ p, p < 12 → P p = Q p) : fP P = fP Q := by
  rcases e : fP Q with _ | k
  · exact fP_none (fun j hj => (h j hj).trans (fP_none_iff.mp e j hj))
  · obtain ⟨h1, h2, h3⟩ := fP_spec e
    exact fP_some h1 ((h k h1).trans h2) (fun j hj => (h j (by omega)).trans (h3 j hj))
theorem fl_congr {P Q : Nat → Bool} (h : ∀ p, p < 12 → P p = Q p) : (List.range 12).filter P = (List.range 12).filter Q := List.filter_congr (fun p hp => h p (List.mem_range.mp hp))
theorem lookO_congr {a lk : Int32} {u v : Nat → Int32} (h : ∀ p, p < 12 → u p = v p) : lookO a lk u = lookO a lk v := by
  unfold lookO
  rw [fP_congr (P := fun p => u p == a) (Q := fun p => v p == a) (fun p hp => by simp only [h p hp]), fP_congr (P := fun p => likB a lk (u p)) (Q := fun p => likB a lk (v p)) (fun p hp => by simp only [h p hp])]
theorem rmL_congr {u v : Nat → Int32} {L : List Nat} (h : ∀ p, p < 12 → u p = v p) : ∀ p, p < 12 → rmL u L p = rmL v L p := fun p hp => by unfold rmL; rw [h p hp]
theorem tkChild_congr {a lk : Int32} {u v : Nat → Int32} (h : ∀ p, p < 12 → u p = v p) : tkChild a lk u = tkChild a lk v := by
  unfold tkChild
  rw [lookO_congr h, lookO_congr (rmL_congr h)]
theorem cP_congr {P Q : Nat → Bool} (h : ∀ p, p < 12 → P p = Q p) : cP P = cP Q := cK_congr h
theorem shyO_congr {a lk : Int32} {u v : Nat → Int32} (h : ∀ p, p < 12 → u p = v p) (s : Nat) : shyO a lk u s = shyO a lk v s := by
  induction s with
  | zero => rfl
  | succ s ih =>
    simp only [shyO]
    rw [ih, cP_congr (P := fun p => u p == nI s) (Q := fun p => v p == nI s) (fun p hp => by simp only [h p hp]), fP_congr (P := fun p => u p == nI s) (Q := fun p => v p == nI s) (fun p hp => by simp only [h p hp])]
theorem tk_congr {k a lk : Int32} {u v : Nat → Int32} (h : ∀ p, p < 12 → u p = v p) : tk k a lk u = tk k a lk v := by
  have e1 : lP (fun p => likB a lk (u p)) = lP (fun p => likB a lk (v p)) := lK_congr (fun p hp => by simp only [h p hp])
  have e2 : fP (fun p => u p == a) = fP (fun p => v p == a) := fP_congr (fun p hp => by simp only [h p hp])
  have e3 : (List.range 12).filter (fun p => u p == a) = (List.range 12).filter (fun p => v p == a) := fl_congr (fun p hp => by simp only [h p hp])
  by_cases h2 : k = 2
  · rw [tk_2 h2, tk_2 h2, e1]
  by_cases h3 : k = 3
  · by_cases hz : fP (fun p => v p == a) = none
    · rw [tk_3n h3 hz, tk_3n h3 (e2.trans hz), tkChild_congr h]
    · rw [tk_3s h3 hz, tk_3s h3 (fun q => hz (e2.symm.trans q)), e3]
  by_cases h4 : k = 4
  · rw [tk_4 h4, tk_4 h4, e1]
    rcases e : lP (fun p => likB a lk (v p)) with _ | p
    · rfl
    · have hp := lP_lt p e
      simp only []
      rw [h p hp, cP_congr (P := fun q => u q == v p) (Q := fun q => v q == v p) (fun q hq => by simp only [h q hq])]
  by_cases h5 : k = 5
  · rw [tk_5 h5, tk_5 h5, shyO_congr h]
  by_cases h1 : k = 1
  · rw [tk_1 h1, tk_1 h1, tkChild_congr h]
  rw [tk_0 h2 h3 h4 h5 h1, tk_0 h2 h3 h4 h5 h1, lookO_congr h]
theorem goT_nil {w : Nat → Nat → Int32} {A : List Nat} {u : Nat → Int32} {x : Nat} (h : x ∉ A) : goT w A u x = [] := by
  induction A generalizing u with
  | nil => rfl
  | cons l A ih =>
    simp only [goT]
    rw [if_neg (fun e => h (by rw [e]; exact List.mem_cons_self)), ih (fun q => h (List.mem_cons_of_mem _ q))]
theorem goU_app {w : Nat → Nat → Int32} {A : List Nat} {l : Nat} {u : Nat → Int32} : goU w (A ++ [l]) u = rmL (goU w A u) (tk (w 2 l) (w 3 l) (w 5 l) (goU w A u)) := by
  induction A generalizing u with
  | nil => rfl
  | cons a A ih => exact ih
theorem goT_app {w : Nat → Nat → Int32} {A : List Nat} {l x : Nat} {u : Nat → Int32} (hl : l ∉ A) : goT w (A ++ [l]) u x = if x = l then tk (w 2 l) (w 3 l) (w 5 l) (goU w A u) else goT w A u x := by
  induction A generalizing u with
  | nil => rfl
  | cons a A ih =>
    show (if x = a then _ else goT w (A ++ [l]) _ x) = _
    rw [ih (fun q => hl (List.mem_cons_of_mem _ q))]
    have hal : ¬ a = l := fun e => hl (by rw [e]; exact List.mem_cons_self)
    by_cases e1 : x = a
    · subst e1; rw [if_pos rfl, if_neg hal]; exact (if_pos rfl).symm
    · rw [if_neg e1]
      by_cases e2 : x = l
      · rw [if_pos e2, if_pos e2]; rfl
      · rw [if_neg e2, if_neg e2]; exact (if_neg e1).symm
theorem goT_lt {w : Nat → Nat → Int32} {A : List Nat} {x p : Nat} {u : Nat → Int32} (h : p ∈ goT w A u x) : p < 12 := by
  induction A generalizing u with
  | nil => cases h
  | cons a A ih =>
    simp only [goT] at h
    split at h
    · exact tk_lt h
    · exact ih h
theorem one_ne0 {p : Nat} (hp : p < 32) (x : Int32) : ¬ (x ||| ((1 : Int32) <<< (nI p &&& 31))) = 0 := by
  intro h
  have h1 := congrArg (fun z => tb z p) h
  simp only [tb_or, tb_one hp, tb_0] at h1
  simp at h1
theorem or_0 (x : Int32) : x ||| 0 = x := by
  apply tb_ext; intro i hi; simp [tb_or, tb_0]
theorem zero_or (x : Int32) : 0 ||| x = x := by
  apply tb_ext; intro i hi; simp [tb_or, tb_0]
theorem or_assoc' (x y z : Int32) : (x ||| y) ||| z = x ||| (y ||| z) := by
  apply tb_ext; intro i hi; simp [tb_or, Bool.or_assoc]
theorem m_tk_18 {μ : j_M} {l p : Nat} : (m_tk μ l p).1 18 l = μ.1 18 l ||| ((1 : Int32) <<< (nI p &&& 31)) := by
  unfold m_tk
  rw [j_pI_ne (by decide), j_pI_at]
  congr 1
  unfold m_t1
  split
  · rw [j_pI_ne (by decide)]
  · rfl
theorem m_tkL_18 {μ : j_M} {l : Nat} {L : List Nat} : (m_tkL μ l L).1 18 l = μ.1 18 l ||| bl L := by
  induction L generalizing μ with
  | nil => exact (or_0 _).symm
  | cons p L ih =>
    show (m_tkL (m_tk μ l p) l L).1 18 l = _
    rw [ih, m_tk_18, or_assoc']
    rfl
theorem m_tk_o {μ : j_M} {l p x : Nat} (h : ¬ x = l) : (m_tk μ l p).1 18 x = μ.1 18 x ∧ (m_tk μ l p).1 19 x = μ.1 19 x := by
  unfold m_tk m_t1
  refine ⟨?_, ?_⟩
  · rw [j_pI_ne (by decide), j_pI_off (by omega)]
    split
    · rw [j_pI_ne (by decide)]
    · rfl
  · rw [j_pI_ne (by decide), j_pI_ne (by decide)]
    split
    · rw [j_pI_off (by omega)]
    · rfl
theorem m_tkL_o {μ : j_M} {l x : Nat} {L : List Nat} (h : ¬ x = l) : (m_tkL μ l L).1 18 x = μ.1 18 x ∧ (m_tkL μ l L).1 19 x = μ.1 19 x := by
  induction L generalizing μ with
  | nil => exact ⟨rfl, rfl⟩
  | cons p L ih => exact ⟨(ih (μ := m_tk μ l p)).1.trans (m_tk_o h).1, (ih (μ := m_tk μ l p)).2.trans (m_tk_o h).2⟩
theorem m_tkL_19k {μ : j_M} {l : Nat} {L : List Nat} (h : ∀ p ∈ L, p < 32) (h0 : ¬ μ.1 18 l = 0) : (m_tkL μ l L).1 19 l = μ.1 19 l := by
  induction L generalizing μ with
  | nil => rfl
  | cons p L ih =>
    have e : (m_tk μ l p).1 19 l = μ.1 19 l := by
      unfold m_tk m_t1
      rw [j_pI_ne (by decide), j_pI_ne (by decide), if_neg h0]
    exact (ih (fun q hq => h q (List.mem_cons_of_mem _ hq)) (by rw [m_tk_18]; exact one_ne0 (h p List.mem_cons_self) _)).trans e
theorem m_tkL_19 {μ : j_M} {l : Nat} {L : List Nat} (h : ∀ p ∈ L, p < 32) (h0 : μ.1 18 l = 0) (h1 : μ.1 19 l = -1) : (m_tkL μ l L).1 19 l = o2i L.head? := by
  cases L with
  | nil => exact h1
  | cons p L =>
    show (m_tkL (m_tk μ l p) l L).1 19 l = nI p
    rw [m_tkL_19k (fun q hq => h q (List.mem_cons_of_mem _ hq)) (by rw [m_tk_18]; exact one_ne0 (h p List.mem_cons_self) _)]
    unfold m_tk m_t1
    rw [j_pI_ne (by decide), j_pI_ne (by decide), if_pos h0, j_pI_at]
theorem m_tkL_2 {μ : j_M} {l : Nat} {L : List Nat} : (m_tkL μ l L).2 = μ.2 := by
  induction L generalizing μ with
  | nil => rfl
  | cons p L ih =>
    refine (ih (μ := m_tk μ l p)).trans ?_
    unfold m_tk m_t1
    show (if μ.1 18 l = 0 then j_pI μ 19 l (nI p) else μ).2 = μ.2
    split <;> rfl
abbrev PB (c j : Nat) : Prop := c = 16 ∨ c = 17 ∨ c = 18 ∨ c = 19 ∨ (c = 0 ∧ j = 25)
theorem m_tkL_F {μ μ' : j_M} {l : Nat} {L : List Nat} (h : Fm PB μ μ') : Fm PB μ (m_tkL μ' l L) := ⟨fun c j q => by
  rw [← h.1 c j q]
  rw [m_tkL_c (by refine ⟨?_, ?_, ?_⟩ <;> (intro e; subst e; exact q (by simp [PB])))], m_tkL_2.trans h.2⟩
/-- what a world is for an evening: its things, kinds, owns, ages, likes; n lookers -/
def RW (w : Nat → Nat → Int32) (n : Nat) (μ : j_M) : Prop := (∀ c, 1 ≤ c → c ≤ 5 → μ.1 c = w c) ∧ μ.1 0 1 = nI n
theorem RW.keep {w : Nat → Nat → Int32} {n : Nat} {μ μ' : j_M} (h : RW w n μ) (hF : Fm PB μ μ') : RW w n μ' := ⟨fun c h1 h2 => by
  rw [← h.1 c h1 h2]
  funext j
  exact hF.1 c j (by omega), (hF.1 0 1 (by omega)).trans h.2⟩
theorem RW.self {n : Nat} {μ : j_M} (h : μ.1 0 1 = nI n) : RW μ.1 n μ := ⟨fun _ _ _ => rfl, h⟩
def RP (w : Nat → Nat → Int32) (O : List Nat) (μ : j_M) : Prop := (∀ p, p < 12 → μ.1 16 p = goU w O (w 1) p) ∧ ∀ l, l < 8 → μ.1 18 l = bl (goT w O (w 1) l) ∧ μ.1 19 l = o2i (goT w O (w 1) l).head?
theorem RP_step {w : Nat → Nat → Int32} {n l : Nat} {A : List Nat} {μ : j_M} (h : RP w A μ) (hw : RW w n μ) (hl : l ∉ A) (hl8 : l < 8) : RP w (A ++ [l]) (m_tkL μ l (tk (μ.1 2 l) (μ.1 3 l) (μ.1 5 l) (μ.1 16))) := by
  have e : tk (μ.1 2 l) (μ.1 3 l) (μ.1 5 l) (μ.1 16) = tk (w 2 l) (w 3 l) (w 5 l) (goU w A (w 1)) := by
    rw [hw.1 2 (by omega) (by omega), hw.1 3 (by omega) (by omega), hw.1 5 (by omega) (by omega)]
    exact tk_congr h.1
  rw [e]
  refine ⟨fun p hp => ?_, fun x hx => ?_⟩
  · rw [m_tkL_16, goU_app]
    exact rmL_congr h.1 p hp
  · rw [goT_app hl]
    by_cases ex : x = l
    · subst ex
      rw [if_pos rfl]
      have h0 := h.2 x hx
      rw [goT_nil hl] at h0
      have hlt : ∀ p ∈ tk (w 2 x) (w 3 x) (w 5 x) (goU w A (w 1)), p < 32 := fun p hp => by have := tk_lt hp; omega
      refine ⟨?_, m_tkL_19 hlt h0.1 h0.2⟩
      rw [m_tkL_18, h0.1]
      exact zero_or _
    · rw [if_neg ex, (m_tkL_o ex).1, (m_tkL_o ex).2]
      exact h.2 x hx
theorem take_snoc {O : List Nat} {k : Nat} (h : k < O.length) : O.take (k + 1) = O.take k ++ [O.getD k 0] := by
  rw [List.take_succ, List.getD_eq_getElem?_getD, List.getElem?_eq_getElem h]
  rfl
theorem not_mem_take {O : List Nat} {k : Nat} (hn : O.Nodup) (h : k < O.length) : O.getD k 0 ∉ O.take k := by
  intro hm
  have h2 : (O.take k ++ O.drop k).Nodup := by rw [List.take_append_drop]; exact hn
  have h3 := (List.nodup_append.mp h2).2.2 _ hm (O.getD k 0) (by
    rw [List.getD_eq_getElem?_getD, List.getElem?_eq_getElem h]
    exact List.mem_drop_iff_getElem.mpr ⟨0, by omega, by simp⟩)
  exact h3 rfl
/-- bits of what a predicate says of the first k -/
def bK (P : Nat → Bool) : Nat → Int32
  | 0 => 0
  | k + 1 => if P k = true then bK P k ||| ((1 : Int32) <<< (nI k &&& 31)) else bK P k
theorem tb_bK {P : Nat → Bool} {k : Nat} (hk : k ≤ 32) (i : Nat) : tb (bK P k) i = (decide (i < k) && P i) := by
  induction k with
  | zero => simp [bK, tb_0]
  | succ k ih =>
    simp only [bK]
    by_cases h : P k = true
    · rw [if_pos h, tb_or, tb_one (by omega), ih (by omega)]
      by_cases e : i = k
      · subst e; simp [h]
      · have : (i < k + 1) = (i < k) := propext ⟨fun q => by omega, fun q => by omega⟩
        simp [e, this]
    · rw [if_neg h, ih (by omega)]
      by_cases e : i = k
      · subst e
        have hf : P i = false := by simpa using h
        simp [hf]
      · have : (i < k + 1) = (i < k) := propext ⟨fun q => by omega, fun q => by omega⟩
        simp [this]
theorem bK_t {P : Nat → Bool} {k : Nat} (h : P k = true) : bK P (k + 1) = bK P k ||| ((1 : Int32) <<< (nI k &&& 31)) := if_pos h
theorem bK_f {P : Nat → Bool} {k : Nat} (h : ¬ P k = true) : bK P (k + 1) = bK P k := if_neg h
theorem cK_t {P : Nat → Bool} {k : Nat} (h : P k = true) : cK P (k + 1) = cK P k + 1 := if_pos h
theorem cK_f {P : Nat → Bool} {k : Nat} (h : ¬ P k = true) : cK P (k + 1) = cK P k := if_neg h
def gladB (tk : Int32) (t : Nat → Int32) (a : Int32) : Bool := (fP (fun p => tb tk p && t p == a)).isSome
def gdB (w : Nat → Nat → Int32) (O : List Nat) (l : Nat) : Bool := (goT w O (w 1) l).any (fun p => w 1 p == w 3 l)
theorem gladB_bl {L : List Nat} (h : ∀ p ∈ L, p < 12) (t : Nat → Int32) (a : Int32) : gladB (bl L) t a = L.any (fun p => t p == a) := by
  unfold gladB
  have hb : ∀ i, tb (bl L) i = decide (i ∈ L) := tb_bl (fun p hp => by have := h p hp; omega)
  rcases e : fP (fun p => tb (bl L) p && t p == a) with _ | k
  · have h1 := fP_none_iff.mp e
    symm
    rw [Option.isSome_none, List.any_eq_false]
    intro p hp
    have := h1 p (h p hp)
    rw [hb] at this
    simpa [hp] using this
  · obtain ⟨h1, h2, -⟩ := fP_spec e
    symm
    rw [Option.isSome_some, List.any_eq_true]
    rw [hb] at h2
    simp at h2
    exact ⟨k, h2.1, by simpa using h2.2⟩
theorem gd_eq {w : Nat → Nat → Int32} {n : Nat} {O : List Nat} {μ : j_M} {l : Nat} (hw : RW w n μ) (h : RP w O μ) (hl : l < 8) : gladB (μ.1 18 l) (μ.1 1) (μ.1 3 l) = gdB w O l := by
  rw [(h.2 l hl).1, hw.1 1 (by omega) (by omega), hw.1 3 (by omega) (by omega), gladB_bl (fun p hp => goT_lt hp)]
  rfl

set_option maxRecDepth 100000 in
theorem c_X10_begins (set : Int32) (n : Nat) (w : Nat → Nat → Int32) (μ : j_M) (hw : RW w n μ) (hn8 : n ≤ 8) : Ct yX10_begins cX10_begins 3 none 2 ΛM [.ref 0, .int set] μ (pV fun μ2 => Fm PB μ μ2 ∧ RP w [] μ2 ∧ μ2.1 0 25 = nI (ordO (w 4) (tb set) n).length ∧ OR (μ2.1 17) (ordO (w 4) (tb set) n)) := by
  refine Ct.go (lo := [some (.ref 0), some (.int set), none]) (by decide) (Nat.le_of_ble_eq_true rfl) rfl rfl (fun X F => ?_)
  have F : Fx X cX10_begins RX10 2 none ΛM := F
  refine v_iconst (pc := 0) (v := nI 0) F dX10_begins_0 (by decide) ?_
  refine v_istore_n (pc := 1) (lo' := [some (.ref _), some (.int _), some (.int _)]) F dX10_begins_1 rfl rfl (Nat.le_of_ble_eq_true rfl) rfl ?_
  refine j_up 12 (fun k => ∀ μ' : j_M, (Fm PB μ μ' ∧ ∀ p, p < k → μ'.1 16 p = w 1 p) → V X _ 2 [some (.ref 0), some (.int set), some (.int (nI k))] [] μ') (fun k hk ih μ' hI => ?_) 0 (Nat.zero_le _) μ (⟨Fm.rf, fun p hp => absurd hp (Nat.not_lt_zero _)⟩)
  refine v_iload_n (pc := 2) (i := 2) F dX10_begins_2 rfl rfl ?_
  refine v_bipush (pc := 3) (v := nI 12) F dX10_begins_3 (by decide) ?_
  refine v_icmp_ge (pc := 5) (tgt := 26) F dX10_begins_5 (by decide) (fun h5_1 => ?_) (fun h5_1 => ?_)
  · rw [nI_leI (by omega) (by omega)] at h5_1
    refine v_iconst (pc := 26) (v := nI 0) F dX10_begins_26 (by decide) ?_
    refine v_istore_n (pc := 27) (lo' := [some (.ref _), some (.int _), some (.int _)]) F dX10_begins_27 rfl rfl (Nat.le_of_ble_eq_true rfl) rfl ?_
    refine j_up 8 (fun k2 => ∀ μ'' : j_M, (Fm PB μ μ'' ∧ (∀ p, p < 12 → μ''.1 16 p = w 1 p) ∧ ∀ l, l < k2 → μ''.1 18 l = 0 ∧ μ''.1 19 l = -1) → V X _ 28 [some (.ref 0), some (.int set), some (.int (nI k2))] [] μ'') (fun k2 hk2 ih2 μ'' hJ => ?_) 0 (Nat.zero_le _) μ' (⟨hI.1, fun p hp => hI.2 p (by omega), fun p hp => absurd hp (Nat.not_lt_zero _)⟩)
    refine v_iload_n (pc := 28) (i := 2) F dX10_begins_28 rfl rfl ?_
    refine v_bipush (pc := 29) (v := nI 8) F dX10_begins_29 (by decide) ?_
    refine v_icmp_ge (pc := 31) (tgt := 54) F dX10_begins_31 (by decide) (fun h31_2 => ?_) (fun h31_2 => ?_)
    · rw [nI_leI (by omega) (by omega)] at h31_2
      refine v_aload_n (pc := 54) (i := 0) F dX10_begins_54 rfl rfl ?_
      refine v_iload_n (pc := 55) (i := 1) F dX10_begins_55 rfl rfl ?_
      refine v_callVV (pc := 56) (As := [_]) (rest := []) (c := 10) F mX10_orders kX10_222 im_X10_orders se_X10_orders dX10_begins_56 rfl rfl (by decide) (c_X10_orders set n μ'' ((hJ.1.1 0 1 (by omega)).trans hw.2) hn8) (by decide) rfl rfl (Nat.le_of_ble_eq_true rfl) lm0 (fun μ3 hp3 => ?_)
      skip
      refine v_return (pc := 59) F dX10_begins_59 ?_
      have hq := hp3
      have e4 : μ''.1 4 = w 4 := by
        rw [← hw.1 4 (by omega) (by omega)]
        funext j
        exact hJ.1.1 4 j (by omega)
      rw [e4] at hq
      refine ⟨hJ.1.tr (hq.1.mono (fun c j h => by unfold PO at h; omega)), ⟨fun p hp => ?_, fun l hl => ?_⟩, hq.2.1, hq.2.2⟩
      · rw [hq.1.1 16 p (by unfold PO; omega)]; exact hJ.2.1 p hp
      · rw [hq.1.1 18 l (by unfold PO; omega), hq.1.1 19 l (by unfold PO; omega)]; exact hJ.2.2 l (by omega)
    · rw [nI_leI (by omega) (by omega)] at h31_2
      refine v_aload_n (pc := 34) (i := 0) F dX10_begins_34 rfl rfl ?_
      refine v_getR (pc := 35) (o := 18) F fX10_62 dX10_begins_35 rfl lm0 ?_
      refine v_topR (y := 18) rfl ?_
      refine v_iload_n (pc := 38) (i := 2) F dX10_begins_38 rfl rfl ?_
      refine v_iconst (pc := 39) (v := nI 0) F dX10_begins_39 (by decide) ?_
      refine v_iastN (pc := 40) (k0 := k2) F dX10_begins_40 (lm10_27 lm0) (rfl) (by omega) (by decide) ?_
      refine v_aload_n (pc := 41) (i := 0) F dX10_begins_41 rfl rfl ?_
      refine v_getR (pc := 42) (o := 19) F fX10_65 dX10_begins_42 rfl lm0 ?_
      refine v_topR (y := 19) rfl ?_
      refine v_iload_n (pc := 45) (i := 2) F dX10_begins_45 rfl rfl ?_
      refine v_iconst (pc := 46) (v := (-1)) F dX10_begins_46 (by decide) ?_
      refine v_iastN (pc := 47) (k0 := k2) F dX10_begins_47 (lm10_28 lm0) (rfl) (by omega) (by decide) ?_
      refine v_iinc (pc := 48) (i := 2) (v := nI (k2 + 1)) (lo' := [some (.ref _), some (.int _), some (.int _)]) F dX10_begins_48 rfl (j_inc _) rfl rfl ?_
      refine v_goto (pc := 51) (tgt := 28) F dX10_begins_51 (by decide) ?_
      refine ih2 (by omega) _ ⟨(hJ.1.pI (by omega)).pI (by omega), fun p hp => ?_, fun l hl => ?_⟩
      · rw [j_pI_ne (by decide), j_pI_ne (by decide)]; exact hJ.2.1 p hp
      · rcases Nat.lt_succ_iff_lt_or_eq.mp hl with q | q
        · rw [j_pI_ne (by decide), j_pI_off (by omega), j_pI_off (by omega), j_pI_ne (by decide)]; exact hJ.2.2 l q
        · subst q; rw [j_pI_ne (by decide), j_pI_at, j_pI_at]; exact ⟨rfl, rfl⟩
  · rw [nI_leI (by omega) (by omega)] at h5_1
    refine v_aload_n (pc := 8) (i := 0) F dX10_begins_8 rfl rfl ?_
    refine v_getR (pc := 9) (o := 16) F fX10_56 dX10_begins_9 rfl lm0 ?_
    refine v_topR (y := 16) rfl ?_
    refine v_iload_n (pc := 12) (i := 2) F dX10_begins_12 rfl rfl ?_
    refine v_aload_n (pc := 13) (i := 0) F dX10_begins_13 rfl rfl ?_
    refine v_getR (pc := 14) (o := 1) F fX10_9 dX10_begins_14 rfl lm0 ?_
    refine v_topR (y := 1) rfl ?_
    refine v_iload_n (pc := 17) (i := 2) F dX10_begins_17 rfl rfl ?_
    refine v_ialdN (pc := 18) (k0 := k) F dX10_begins_18 (lm10_0 lm0) (rfl) (by omega) (by decide) ?_
    refine v_iastN (pc := 19) (k0 := k) F dX10_begins_19 (lm10_24 lm0) (rfl) (by omega) (by decide) ?_
    refine v_iinc (pc := 20) (i := 2) (v := nI (k + 1)) (lo' := [some (.ref _), some (.int _), some (.int _)]) F dX10_begins_20 rfl (j_inc _) rfl rfl ?_
    refine v_goto (pc := 23) (tgt := 2) F dX10_begins_23 (by decide) ?_
    refine ih (by omega) _ ⟨hI.1.pI (Or.inl rfl), fun p hp => ?_⟩
    rcases Nat.lt_succ_iff_lt_or_eq.mp hp with q | q
    · rw [j_pI_off (by omega)]; exact hI.2 p q
    · rw [q, j_pI_at, hI.1.1 1 k (by omega), hw.1 1 (by omega) (by omega)]

set_option maxRecDepth 100000 in
theorem c_X10_runs (set : Int32) (n : Nat) (w : Nat → Nat → Int32) (μ : j_M) (hw : RW w n μ) (hn8 : n ≤ 8) (ho : ∀ l, l < n → ¬ w 3 l = -1) : Ct yX10_runs cX10_runs 3 none 4 ΛM [.ref 0, .int set] μ (pV fun μ2 => Fm PB μ μ2 ∧ RP w (ordO (w 4) (tb set) n) μ2) := by
  refine Ct.go (lo := [some (.ref 0), some (.int set), none]) (by decide) (Nat.le_of_ble_eq_true rfl) rfl rfl (fun X F => ?_)
  have F : Fx X cX10_runs RX10 4 none ΛM := F
  refine v_aload_n (pc := 0) (i := 0) F dX10_runs_0 rfl rfl ?_
  refine v_iload_n (pc := 1) (i := 1) F dX10_runs_1 rfl rfl ?_
  refine v_callVV (pc := 2) (As := [_]) (rest := []) (c := 10) F mX10_begins kX10_225 im_X10_begins se_X10_begins dX10_runs_2 rfl rfl (by decide) (c_X10_begins set n w μ hw hn8) (by decide) rfl rfl (Nat.le_of_ble_eq_true rfl) lm0 (fun μ1 hp1 => ?_)
  obtain ⟨O, hO⟩ : ∃ O, O = (ordO (w 4) (tb set) n) := ⟨_, rfl⟩
  rw [← hO] at hp1
  rw [← hO]
  have hOl : O.length ≤ n := by rw [hO, ordO_len]; exact cK_le _ _
  have hOm : ∀ j, j < O.length → O.getD j 0 < n := fun j hj => (ordO_mem.mp (by rw [← hO]; exact getD_mem hj : O.getD j 0 ∈ ordO (w 4) (tb set) n)).1
  have hON : O.Nodup := by rw [hO]; exact ordO_nodup
  have hq := hp1
  refine v_iconst (pc := 5) (v := nI 0) F dX10_runs_5 (by decide) ?_
  refine v_istore_n (pc := 6) (lo' := [some (.ref _), some (.int _), some (.int _)]) F dX10_runs_6 rfl rfl (Nat.le_of_ble_eq_true rfl) rfl ?_
  refine j_up O.length (fun k => ∀ μ' : j_M, (Fm PB μ μ' ∧ μ'.1 0 25 = nI O.length ∧ OR (μ'.1 17) O ∧ RP w (O.take k) μ') → V X _ 7 [some (.ref 0), some (.int set), some (.int (nI k))] [] μ') (fun k hk ih μ' hI => ?_) 0 (Nat.zero_le _) μ1 (⟨hq.1, hq.2.2.1, hq.2.2.2, hq.2.1⟩)
  refine v_iload_n (pc := 7) (i := 2) F dX10_runs_7 rfl rfl ?_
  refine v_aload_n (pc := 8) (i := 0) F dX10_runs_8 rfl rfl ?_
  refine v_getI (pc := 9) F fX10_219 dX10_runs_9 rfl lm0 ?_
  refine v_topE (hI.2.1) ?_
  refine v_icmp_ge (pc := 12) (tgt := 31) F dX10_runs_12 (by decide) (fun h12_2 => ?_) (fun h12_2 => ?_)
  · rw [nI_leI (by omega) (by omega)] at h12_2
    refine v_return (pc := 31) F dX10_runs_31 ?_
    have e : k = O.length := by omega
    rw [e, List.take_length] at hI
    exact ⟨hI.1, hI.2.2.2⟩
  · rw [nI_leI (by omega) (by omega)] at h12_2
    refine v_aload_n (pc := 15) (i := 0) F dX10_runs_15 rfl rfl ?_
    refine v_aload_n (pc := 16) (i := 0) F dX10_runs_16 rfl rfl ?_
    refine v_getR (pc := 17) (o := 17) F fX10_59 dX10_runs_17 rfl lm0 ?_
    refine v_topR (y := 17) rfl ?_
    refine v_iload_n (pc := 20) (i := 2) F dX10_runs_20 rfl rfl ?_
    refine v_ialdN (pc := 21) (k0 := k) F dX10_runs_21 (lm10_26 lm0) (rfl) (by omega) (by decide) ?_
    refine v_topE (y := nI (O.getD k 0)) (hI.2.2.1 k (by omega)) ?_
    have hlk := hOm k (by omega)
    refine v_callVV (pc := 22) (As := [_]) (rest := []) (c := 10) F mX10_lookerGoes kX10_228 im_X10_lookerGoes se_X10_lookerGoes dX10_runs_22 rfl rfl (by decide) (c_X10_lookerGoes (O.getD k 0) (by omega) _ (by rw [(hw.keep hI.1).1 3 (by omega) (by omega)]; exact ho _ hlk)) (by decide) rfl rfl (Nat.le_of_ble_eq_true rfl) lm0 (fun μ3 hp3 => ?_)
    rw [hp3]
    refine v_iinc (pc := 25) (i := 2) (v := nI (k + 1)) (lo' := [some (.ref _), some (.int _), some (.int _)]) F dX10_runs_25 rfl (j_inc _) rfl rfl ?_
    refine v_goto (pc := 28) (tgt := 7) F dX10_runs_28 (by decide) ?_
    refine ih (by omega) _ ⟨m_tkL_F hI.1, ?_, fun j hj => ?_, ?_⟩
    · rw [m_tkL_c (by decide)]; exact hI.2.1
    · rw [m_tkL_c (by decide)]; exact hI.2.2.1 j hj
    · rw [take_snoc (by omega)]; exact RP_step hI.2.2.2 (hw.keep hI.1) (not_mem_take hON (by omega)) (by omega)

set_option maxRecDepth 100000 in
theorem c_X10_leftThen (μ : j_M) : Ct yX10_leftThen cX10_leftThen 3 (some .int) 0 ΛM [.ref 0] μ (pI fun r μ2 => r = (bK (fun p => !(μ.1 16 p == -1)) 12) ∧ μ2 = μ) := by
  refine Ct.go (lo := [some (.ref 0), none, none]) (by decide) (Nat.le_of_ble_eq_true rfl) rfl rfl (fun X F => ?_)
  have F : Fx X cX10_leftThen RX10 0 (some .int) ΛM := F
  refine v_iconst (pc := 0) (v := nI 0) F dX10_leftThen_0 (by decide) ?_
  refine v_istore_n (pc := 1) (lo' := [some (.ref _), some (.int _), _]) F dX10_leftThen_1 rfl rfl (Nat.le_of_ble_eq_true rfl) rfl ?_
  refine v_iconst (pc := 2) (v := nI 0) F dX10_leftThen_2 (by decide) ?_
  refine v_istore_n (pc := 3) (lo' := [some (.ref _), some (.int _), some (.int _)]) F dX10_leftThen_3 rfl rfl (Nat.le_of_ble_eq_true rfl) rfl ?_
  refine j_up 12 (fun k => V X _ 4 [some (.ref 0), some (.int (bK (fun p => !(μ.1 16 p == -1)) k)), some (.int (nI k))] [] μ) (fun k hk ih => ?_) 0 (Nat.zero_le _)
  refine v_iload_n (pc := 4) (i := 2) F dX10_leftThen_4 rfl rfl ?_
  refine v_bipush (pc := 5) (v := nI 12) F dX10_leftThen_5 (by decide) ?_
  refine v_icmp_ge (pc := 7) (tgt := 32) F dX10_leftThen_7 (by decide) (fun h7_1 => ?_) (fun h7_1 => ?_)
  · rw [nI_leI (by omega) (by omega)] at h7_1
    refine v_iload_n (pc := 32) (i := 1) F dX10_leftThen_32 rfl rfl ?_
    refine v_ireturn (pc := 33) F dX10_leftThen_33 (rfl) ?_
    have e : k = 12 := by omega
    subst e
    exact ⟨rfl, rfl⟩
  · rw [nI_leI (by omega) (by omega)] at h7_1
    refine v_aload_n (pc := 10) (i := 0) F dX10_leftThen_10 rfl rfl ?_
    refine v_getR (pc := 11) (o := 16) F fX10_56 dX10_leftThen_11 rfl lm0 ?_
    refine v_topR (y := 16) rfl ?_
    refine v_iload_n (pc := 14) (i := 2) F dX10_leftThen_14 rfl rfl ?_
    refine v_ialdN (pc := 15) (k0 := k) F dX10_leftThen_15 (lm10_24 lm0) (rfl) (by omega) (by decide) ?_
    refine v_iconst (pc := 16) (v := (-1)) F dX10_leftThen_16 (by decide) ?_
    refine v_icmp_eq (pc := 17) (tgt := 26) F dX10_leftThen_17 (by decide) (fun hc => ?_) (fun hc => ?_)
    · skip
      refine v_iinc (pc := 26) (i := 2) (v := nI (k + 1)) (lo' := [some (.ref _), some (.int _), some (.int _)]) F dX10_leftThen_26 rfl (j_inc _) rfl rfl ?_
      refine v_goto (pc := 29) (tgt := 4) F dX10_leftThen_29 (by decide) ?_
      have q := ih (by omega)
      first | (rw [bK_t (k := k) (by simpa using hc)] at q; exact q) | (rw [bK_f (k := k) (by simpa using hc)] at q; exact q)
    · skip
      refine v_iload_n (pc := 20) (i := 1) F dX10_leftThen_20 rfl rfl ?_
      refine v_iconst (pc := 21) (v := nI 1) F dX10_leftThen_21 (by decide) ?_
      refine v_iload_n (pc := 22) (i := 2) F dX10_leftThen_22 rfl rfl ?_
      refine v_ishl (pc := 23) F dX10_leftThen_23 ?_
      refine v_ior (pc := 24) F dX10_leftThen_24 ?_
      refine v_istore_n (pc := 25) (lo' := [some (.ref _), some (.int _), some (.int _)]) F dX10_leftThen_25 rfl rfl (Nat.le_of_ble_eq_true rfl) rfl ?_
      refine v_iinc (pc := 26) (i := 2) (v := nI (k + 1)) (lo' := [some (.ref _), some (.int _), some (.int _)]) F dX10_leftThen_26 rfl (j_inc _) rfl rfl ?_
      refine v_goto (pc := 29) (tgt := 4) F dX10_leftThen_29 (by decide) ?_
      have q := ih (by omega)
      first | (rw [bK_t (k := k) (by simpa using hc)] at q; exact q) | (rw [bK_f (k := k) (by simpa using hc)] at q; exact q)

set_option maxRecDepth 100000 in
theorem c_X10_isGlad (l : Nat) (hl : l < 8) (μ : j_M) : Ct yX10_isGlad cX10_isGlad 3 (some .boolean) 1 ΛM [.ref 0, .int (nI l)] μ (pI fun r μ2 => r = (b2i (gladB (μ.1 18 l) (μ.1 1) (μ.1 3 l) = true)) ∧ μ2 = μ) := by
  refine Ct.go (lo := [some (.ref 0), some (.int (nI l)), none]) (by decide) (Nat.le_of_ble_eq_true rfl) rfl rfl (fun X F => ?_)
  have F : Fx X cX10_isGlad RX10 1 (some .boolean) ΛM := F
  refine v_iconst (pc := 0) (v := nI 0) F dX10_isGlad_0 (by decide) ?_
  refine v_istore_n (pc := 1) (lo' := [some (.ref _), some (.int _), some (.int _)]) F dX10_isGlad_1 rfl rfl (Nat.le_of_ble_eq_true rfl) rfl ?_
  refine j_up 12 (fun k => (∀ j, j < k → (fun p => tb (μ.1 18 l) p && μ.1 1 p == μ.1 3 l) j = false) → V X _ 2 [some (.ref 0), some (.int (nI l)), some (.int (nI k))] [] μ) (fun k hk ih hI => ?_) 0 (Nat.zero_le _) (fun j hj => absurd hj (Nat.not_lt_zero _))
  refine v_iload_n (pc := 2) (i := 2) F dX10_isGlad_2 rfl rfl ?_
  refine v_bipush (pc := 3) (v := nI 12) F dX10_isGlad_3 (by decide) ?_
  refine v_icmp_ge (pc := 5) (tgt := 44) F dX10_isGlad_5 (by decide) (fun h5_1 => ?_) (fun h5_1 => ?_)
  · rw [nI_leI (by omega) (by omega)] at h5_1
    refine v_iconst (pc := 44) (v := nI 0) F dX10_isGlad_44 (by decide) ?_
    refine v_ireturn (pc := 45) F dX10_isGlad_45 (rfl) ?_
    refine ⟨?_, rfl⟩
    rw [b2i_f (show ¬ gladB (μ.1 18 l) (μ.1 1) (μ.1 3 l) = true by unfold gladB; rw [fP_none (fun j hj => hI j (by omega))]; decide)]
    rfl
  · rw [nI_leI (by omega) (by omega)] at h5_1
    refine v_aload_n (pc := 8) (i := 0) F dX10_isGlad_8 rfl rfl ?_
    refine v_getR (pc := 9) (o := 18) F fX10_62 dX10_isGlad_9 rfl lm0 ?_
    refine v_topR (y := 18) rfl ?_
    refine v_iload_n (pc := 12) (i := 1) F dX10_isGlad_12 rfl rfl ?_
    refine v_ialdN (pc := 13) (k0 := l) F dX10_isGlad_13 (lm10_27 lm0) (rfl) (by omega) (by decide) ?_
    refine v_iload_n (pc := 14) (i := 2) F dX10_isGlad_14 rfl rfl ?_
    refine v_callSI (pc := 15) (As := [_, _]) (rest := []) F mX10_in kX10_194 sm_X10_in dX10_isGlad_15 (c_X10_inN _ k (by omega) _) (by decide) rfl rfl (Nat.le_of_ble_eq_true rfl) (fun x2 μ2 hp2 => ?_)
    rw [hp2.1, hp2.2]
    refine v_if_eq (pc := 18) (tgt := 38) F dX10_isGlad_18 (by decide) (fun ha => ?_) (fun ha => ?_)
    · rw [b2i_0] at ha
      refine v_iinc (pc := 38) (i := 2) (v := nI (k + 1)) (lo' := [some (.ref _), some (.int _), some (.int _)]) F dX10_isGlad_38 rfl (j_inc _) rfl rfl ?_
      refine v_goto (pc := 41) (tgt := 2) F dX10_isGlad_41 (by decide) ?_
      refine ih (by omega) (fun j hj => ?_)
      rcases Nat.lt_succ_iff_lt_or_eq.mp hj with q | q
      · exact hI j q
      · subst q; first | (simp [ha]; done) | (simp [hb]; done)
    · rw [b2i_0] at ha
      rw [Classical.not_not] at ha
      refine v_aload_n (pc := 21) (i := 0) F dX10_isGlad_21 rfl rfl ?_
      refine v_getR (pc := 22) (o := 1) F fX10_9 dX10_isGlad_22 rfl lm0 ?_
      refine v_topR (y := 1) rfl ?_
      refine v_iload_n (pc := 25) (i := 2) F dX10_isGlad_25 rfl rfl ?_
      refine v_ialdN (pc := 26) (k0 := k) F dX10_isGlad_26 (lm10_0 lm0) (rfl) (by omega) (by decide) ?_
      refine v_aload_n (pc := 27) (i := 0) F dX10_isGlad_27 rfl rfl ?_
      refine v_getR (pc := 28) (o := 3) F fX10_16 dX10_isGlad_28 rfl lm0 ?_
      refine v_topR (y := 3) rfl ?_
      refine v_iload_n (pc := 31) (i := 1) F dX10_isGlad_31 rfl rfl ?_
      refine v_ialdN (pc := 32) (k0 := l) F dX10_isGlad_32 (lm10_3 lm0) (rfl) (by omega) (by decide) ?_
      refine v_icmp_ne (pc := 33) (tgt := 38) F dX10_isGlad_33 (by decide) (fun hb => ?_) (fun hb => ?_)
      · skip
        refine v_iinc (pc := 38) (i := 2) (v := nI (k + 1)) (lo' := [some (.ref _), some (.int _), some (.int _)]) F dX10_isGlad_38 rfl (j_inc _) rfl rfl ?_
        refine v_goto (pc := 41) (tgt := 2) F dX10_isGlad_41 (by decide) ?_
        refine ih (by omega) (fun j hj => ?_)
        rcases Nat.lt_succ_iff_lt_or_eq.mp hj with q | q
        · exact hI j q
        · subst q; first | (simp [ha]; done) | (simp [hb]; done)
      · skip
        refine v_iconst (pc := 36) (v := nI 1) F dX10_isGlad_36 (by decide) ?_
        refine v_ireturn (pc := 37) F dX10_isGlad_37 (rfl) ?_
        refine ⟨?_, rfl⟩
        rw [b2i_t (show gladB (μ.1 18 l) (μ.1 1) (μ.1 3 l) = true by unfold gladB; rw [fP_some (k := k) (by omega) (by simp [ha, hb]) hI]; rfl)]
        rfl

set_option maxRecDepth 100000 in
theorem c_X10_gladOf (set : Int32) (n : Nat) (w : Nat → Nat → Int32) (μ : j_M) (hw : RW w n μ) (hn8 : n ≤ 8) (ho : ∀ l, l < n → ¬ w 3 l = -1) (O : List Nat) (hO : ordO (w 4) (tb set) n = O) : Ct yX10_gladOf cX10_gladOf 4 (some .int) 5 ΛM [.ref 0, .int set] μ (pI fun r μ2 => r = nI (cK (fun l => tb set l && gdB w O l) n) ∧ Fm PB μ μ2 ∧ RP w O μ2) := by
  refine Ct.go (lo := [some (.ref 0), some (.int set), none, none]) (by decide) (Nat.le_of_ble_eq_true rfl) rfl rfl (fun X F => ?_)
  have F : Fx X cX10_gladOf RX10 5 (some .int) ΛM := F
  refine v_aload_n (pc := 0) (i := 0) F dX10_gladOf_0 rfl rfl ?_
  refine v_iload_n (pc := 1) (i := 1) F dX10_gladOf_1 rfl rfl ?_
  refine v_callVV (pc := 2) (As := [_]) (rest := []) (c := 10) F mX10_runs kX10_117 im_X10_runs se_X10_runs dX10_gladOf_2 rfl rfl (by decide) (c_X10_runs _ n w _ hw hn8 ho) (by decide) rfl rfl (Nat.le_of_ble_eq_true rfl) lm0 (fun μ1 hp1 => ?_)
  rw [hO] at hp1
  have hq := hp1
  have hw2 := hw.keep hq.1
  generalize μ1 = μ' at hq hw2 ⊢
  refine v_iconst (pc := 5) (v := nI 0) F dX10_gladOf_5 (by decide) ?_
  refine v_istore_n (pc := 6) (lo' := [some (.ref _), some (.int _), some (.int _), _]) F dX10_gladOf_6 rfl rfl (Nat.le_of_ble_eq_true rfl) rfl ?_
  refine v_iconst (pc := 7) (v := nI 0) F dX10_gladOf_7 (by decide) ?_
  refine v_istore_n (pc := 8) (lo' := [some (.ref _), some (.int _), some (.int _), some (.int _)]) F dX10_gladOf_8 rfl rfl (Nat.le_of_ble_eq_true rfl) rfl ?_
  refine j_up n (fun k => V X _ 9 [some (.ref 0), some (.int set), some (.int (nI (cK (fun l => tb set l && gdB w O l) k))), some (.int (nI k))] [] μ') (fun k hk ih => ?_) 0 (Nat.zero_le _)
  refine v_iload_n (pc := 9) (i := 3) F dX10_gladOf_9 rfl rfl ?_
  refine v_aload_n (pc := 10) (i := 0) F dX10_gladOf_10 rfl rfl ?_
  refine v_getI (pc := 11) F fX10_89 dX10_gladOf_11 rfl lm0 ?_
  refine v_topE (hw2.2) ?_
  refine v_icmp_ge (pc := 14) (tgt := 42) F dX10_gladOf_14 (by decide) (fun h14_2 => ?_) (fun h14_2 => ?_)
  · rw [nI_leI (by omega) (by omega)] at h14_2
    refine v_iload_n (pc := 42) (i := 2) F dX10_gladOf_42 rfl rfl ?_
    refine v_ireturn (pc := 43) F dX10_gladOf_43 (rfl) ?_
    have e : k = n := by omega
    subst e
    exact ⟨rfl, hq⟩
  · rw [nI_leI (by omega) (by omega)] at h14_2
    refine v_iload_n (pc := 17) (i := 1) F dX10_gladOf_17 rfl rfl ?_
    refine v_iload_n (pc := 18) (i := 3) F dX10_gladOf_18 rfl rfl ?_
    refine v_callSI (pc := 19) (As := [_, _]) (rest := []) F mX10_in kX10_194 sm_X10_in dX10_gladOf_19 (c_X10_inN _ k (by omega) _) (by decide) rfl rfl (Nat.le_of_ble_eq_true rfl) (fun x3 μ3 hp3 => ?_)
    rw [hp3.1, hp3.2]
    refine v_if_eq (pc := 22) (tgt := 36) F dX10_gladOf_22 (by decide) (fun ha => ?_) (fun ha => ?_)
    · rw [b2i_0] at ha
      refine v_iinc (pc := 36) (i := 3) (v := nI (k + 1)) (lo' := [some (.ref _), some (.int _), some (.int _), some (.int _)]) F dX10_gladOf_36 rfl (j_inc _) rfl rfl ?_
      refine v_goto (pc := 39) (tgt := 9) F dX10_gladOf_39 (by decide) ?_
      have q := ih (by omega)
      first | (rw [cK_t (k := k) (by simp [ha, hb])] at q; exact q) | (rw [cK_f (k := k) (by simpa [ha] using hb)] at q; exact q) | (rw [cK_f (k := k) (by simp [ha])] at q; exact q)
    · rw [b2i_0] at ha
      rw [Classical.not_not] at ha
      refine v_aload_n (pc := 25) (i := 0) F dX10_gladOf_25 rfl rfl ?_
      refine v_iload_n (pc := 26) (i := 3) F dX10_gladOf_26 rfl rfl ?_
      refine v_callVI (pc := 27) (As := [_]) (rest := []) (c := 10) F mX10_isGlad kX10_231 im_X10_isGlad se_X10_isGlad dX10_gladOf_27 rfl rfl (by decide) (c_X10_isGlad k (by omega) _) (by decide) rfl rfl (Nat.le_of_ble_eq_true rfl) lm0 (fun x5 μ5 hp5 => ?_)
      rw [hp5.1, hp5.2]
      refine v_if_eq (pc := 30) (tgt := 36) F dX10_gladOf_30 (by decide) (fun hb => ?_) (fun hb => ?_)
      · rw [b2i_0, gd_eq hw2 hq.2 (by omega)] at hb
        refine v_iinc (pc := 36) (i := 3) (v := nI (k + 1)) (lo' := [some (.ref _), some (.int _), some (.int _), some (.int _)]) F dX10_gladOf_36 rfl (j_inc _) rfl rfl ?_
        refine v_goto (pc := 39) (tgt := 9) F dX10_gladOf_39 (by decide) ?_
        have q := ih (by omega)
        first | (rw [cK_t (k := k) (by simp [ha, hb])] at q; exact q) | (rw [cK_f (k := k) (by simpa [ha] using hb)] at q; exact q) | (rw [cK_f (k := k) (by simp [ha])] at q; exact q)
      · rw [b2i_0, gd_eq hw2 hq.2 (by omega)] at hb
        rw [Classical.not_not] at hb
        refine v_iinc (pc := 33) (i := 2) (v := nI (cK (fun l => tb set l && gdB w O l) k + 1)) (lo' := [some (.ref _), some (.int _), some (.int _), some (.int _)]) F dX10_gladOf_33 rfl (j_inc _) rfl rfl ?_
        refine v_iinc (pc := 36) (i := 3) (v := nI (k + 1)) (lo' := [some (.ref _), some (.int _), some (.int _), some (.int _)]) F dX10_gladOf_36 rfl (j_inc _) rfl rfl ?_
        refine v_goto (pc := 39) (tgt := 9) F dX10_gladOf_39 (by decide) ?_
        have q := ih (by omega)
        first | (rw [cK_t (k := k) (by simp [ha, hb])] at q; exact q) | (rw [cK_f (k := k) (by simpa [ha] using hb)] at q; exact q) | (rw [cK_f (k := k) (by simp [ha])] at q; exact q)
