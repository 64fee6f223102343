/-! the reference: a window -/
def SRel (P : Nat → Nat → Prop) (o1 o2 : Sum Nat (Nat × j_M)) : Prop := match o1, o2 with
  | .inl g, .inl h => g = h
  | .inr p, .inr q => p.1 = q.1 ∧ Fm P p.2 q.2
  | _, _ => False
theorem nb1_F {P : Nat → Nat → Prop} {t : Nat → Int32} {n e M : Nat} {F G : Nat → j_M} (h : ∀ x, Fm P (F x) (G x)) : SRel P (nb1 t n e M F) (nb1 t n e M G) := by
  unfold nb1
  rcases nbr t n e M with _ | x
  · rfl
  · exact ⟨rfl, h x⟩
theorem nb2_F {P : Nat → Nat → Prop} {t : Nat → Int32} {n e M N : Nat} {F G : Nat → Nat → j_M} (h : ∀ x v, Fm P (F x v) (G x v)) : SRel P (nb2 t n e M N F) (nb2 t n e M N G) := by
  unfold nb2
  rcases nbr t n e M with _ | x
  · rfl
  · exact nb1_F (h x)
theorem nb3_F {P : Nat → Nat → Prop} {t : Nat → Int32} {n e M N K : Nat} {F G : Nat → Nat → Nat → j_M} (h : ∀ x v g, Fm P (F x v g) (G x v g)) : SRel P (nb3 t n e M N K F) (nb3 t n e M N K G) := by
  unfold nb3
  rcases nbr t n e M with _ | x
  · rfl
  · exact nb2_F (h x)
theorem stS_F {P : Nat → Nat → Prop} {a b : j_M} (hP : ∀ c j, P c j → ¬ (c = 0 ∧ j = 1) ∧ c ≠ 5) (h : Fm P a b) {t : Nat → Int32} {n f e : Nat} {kd : Int32} : SRel P (stS t n kd f e a) (stS t n kd f e b) := by
  have h1 : nn b = nn a := by unfold nn; rw [h.1 0 1 (fun z => (hP 0 1 z).1 ⟨rfl, rfl⟩)]
  have h5 : ∀ x, b.1 5 x = a.1 5 x := fun x => h.1 5 x (fun z => (hP 5 x z).2 rfl)
  unfold stS
  rw [h1]
  by_cases w0 : isW t f e kd 0 = true
  · rw [if_pos w0, if_pos w0]; exact nb2_F (fun x v => h.both)
  rw [if_neg w0, if_neg w0]
  by_cases w1 : isW t f e kd 1 = true
  · rw [if_pos w1, if_pos w1]; exact nb1_F (fun x => h.both)
  rw [if_neg w1, if_neg w1]
  by_cases w2 : isW t f e kd 2 = true
  · rw [if_pos w2, if_pos w2]
    by_cases w8 : nn a = 8
    · rw [if_pos w8, if_pos w8]; rfl
    · rw [if_neg w8, if_neg w8]; exact nb3_F (fun x v g => nl_F h)
  rw [if_neg w2, if_neg w2]
  by_cases w3 : isW t f e kd 3 = true
  · rw [if_pos w3, if_pos w3]; exact nb2_F (fun x v => by rw [h5]; exact h.both)
  rw [if_neg w3, if_neg w3]
  by_cases w4 : isW t f e kd 4 = true
  · rw [if_pos w4, if_pos w4]; exact nb2_F (fun x v => h.both)
  rw [if_neg w4, if_neg w4]
  by_cases w5 : isW t f e kd 5 = true
  · rw [if_pos w5, if_pos w5]; exact nb2_F (fun x v => h.both)
  rw [if_neg w5, if_neg w5]
  rfl
theorem nb1_b {t : Nat → Int32} {n e M : Nat} {F : Nat → j_M} {q : Nat × j_M} (hM : M < 2 ^ 31) (he : e ≤ n) (h : nb1 t n e M F = .inr q) : e ≤ q.1 ∧ q.1 ≤ n ∧ ∃ x, x < M ∧ q.2 = F x := by
  unfold nb1 at h
  rcases hx : nbr t n e M with _ | x
  · rw [hx] at h; cases h
  · rw [hx] at h
    cases h
    have a := tkF_le (t := t) he
    have b := tkT_le (t := t) he
    exact ⟨by show e ≤ tkT t n e; omega, b.2, x, nbr_lt hM hx, rfl⟩
theorem nb2_b {t : Nat → Int32} {n e M N : Nat} {F : Nat → Nat → j_M} {q : Nat × j_M} (hM : M < 2 ^ 31) (hN : N < 2 ^ 31) (he : e ≤ n) (h : nb2 t n e M N F = .inr q) : e ≤ q.1 ∧ q.1 ≤ n ∧ ∃ x v, x < M ∧ v < N ∧ q.2 = F x v := by
  unfold nb2 at h
  rcases hx : nbr t n e M with _ | x
  · rw [hx] at h; cases h
  · rw [hx] at h
    have a := tkF_le (t := t) he
    have b := tkT_le (t := t) he
    obtain ⟨h1, h2, v, h3, h4⟩ := nb1_b hN b.2 h
    exact ⟨by omega, h2, x, v, nbr_lt hM hx, h3, h4⟩
theorem nb3_b {t : Nat → Int32} {n e M N K : Nat} {F : Nat → Nat → Nat → j_M} {q : Nat × j_M} (hM : M < 2 ^ 31) (hN : N < 2 ^ 31) (hK : K < 2 ^ 31) (he : e ≤ n) (h : nb3 t n e M N K F = .inr q) : e ≤ q.1 ∧ q.1 ≤ n ∧ ∃ x v g, x < M ∧ v < N ∧ g < K ∧ q.2 = F x v g := by
  unfold nb3 at h
  rcases hx : nbr t n e M with _ | x
  · rw [hx] at h; cases h
  · rw [hx] at h
    have a := tkF_le (t := t) he
    have b := tkT_le (t := t) he
    obtain ⟨h1, h2, v, g, h3, h4, h5⟩ := nb2_b hN hK b.2 h
    exact ⟨by omega, h2, x, v, g, nbr_lt hM hx, h3, h4, h5⟩
/-- what a statement may do to a world -/
def SE (μ m : j_M) : Prop := (∃ x v, x < 12 ∧ v < 8 ∧ m = j_pI μ 1 x (nI v)) ∨ (∃ x, x < 12 ∧ m = j_pI μ 1 x (-1)) ∨ (nn μ ≠ 8 ∧ ∃ x v g, x < 6 ∧ v < 8 ∧ g < 100 ∧ m = m_nl μ (nn μ) (nI x) (nI v) (nI g)) ∨ (∃ x v, x < nn μ ∧ v < 8 ∧ m = j_pI μ 5 x (μ.1 5 x ||| ((1 : Int32) <<< (nI v &&& 31)))) ∨ (∃ x v, x < nn μ ∧ v < 13 ∧ m = j_pI μ 6 x (nI v)) ∨ ∃ x v, x < nn μ ∧ v < 8 ∧ m = j_pI μ 7 x (nI v)
theorem stS_b {t : Nat → Int32} {n f e : Nat} {kd : Int32} {μ : j_M} {q : Nat × j_M} (hn : nn μ ≤ 8) (he : e ≤ n) (h : stS t n kd f e μ = .inr q) : e ≤ q.1 ∧ q.1 ≤ n ∧ SE μ q.2 := by
  unfold stS at h
  by_cases w0 : isW t f e kd 0 = true
  · rw [if_pos w0] at h
    obtain ⟨h1, h2, x, v, h3, h4, h5⟩ := nb2_b (by decide) (by decide) he h
    exact ⟨h1, h2, Or.inl ⟨x, v, h3, h4, h5⟩⟩
  rw [if_neg w0] at h
  by_cases w1 : isW t f e kd 1 = true
  · rw [if_pos w1] at h
    obtain ⟨h1, h2, x, h3, h5⟩ := nb1_b (by decide) he h
    exact ⟨h1, h2, Or.inr (Or.inl ⟨x, h3, h5⟩)⟩
  rw [if_neg w1] at h
  by_cases w2 : isW t f e kd 2 = true
  · rw [if_pos w2] at h
    by_cases w8 : nn μ = 8
    · rw [if_pos w8] at h; cases h
    · rw [if_neg w8] at h
      obtain ⟨h1, h2, x, v, g, h3, h4, h5, h6⟩ := nb3_b (by decide) (by decide) (by decide) he h
      exact ⟨h1, h2, Or.inr (Or.inr (Or.inl ⟨w8, x, v, g, h3, h4, h5, h6⟩))⟩
  rw [if_neg w2] at h
  by_cases w3 : isW t f e kd 3 = true
  · rw [if_pos w3] at h
    obtain ⟨h1, h2, x, v, h3, h4, h5⟩ := nb2_b (by omega) (by decide) he h
    exact ⟨h1, h2, Or.inr (Or.inr (Or.inr (Or.inl ⟨x, v, h3, h4, h5⟩)))⟩
  rw [if_neg w3] at h
  by_cases w4 : isW t f e kd 4 = true
  · rw [if_pos w4] at h
    obtain ⟨h1, h2, x, v, h3, h4, h5⟩ := nb2_b (by omega) (by decide) he h
    exact ⟨h1, h2, Or.inr (Or.inr (Or.inr (Or.inr (Or.inl ⟨x, v, h3, h4, h5⟩))))⟩
  rw [if_neg w4] at h
  by_cases w5 : isW t f e kd 5 = true
  · rw [if_pos w5] at h
    obtain ⟨h1, h2, x, v, h3, h4, h5⟩ := nb2_b (by omega) (by decide) he h
    exact ⟨h1, h2, Or.inr (Or.inr (Or.inr (Or.inr (Or.inr ⟨x, v, h3, h4, h5⟩))))⟩
  rw [if_neg w5] at h
  cases h
abbrev PA (c j : Nat) : Prop := PT c j ∨ c = 15
abbrev PG (c j : Nat) : Prop := (c = 1 ∧ j < 12) ∨ (2 ≤ c ∧ c ≤ 7 ∧ j < 8) ∨ (c = 8 ∧ j < 64) ∨ (c = 0 ∧ j = 1)
abbrev PQ (c j : Nat) : Prop := PG c j ∨ PA c j
theorem zh_G {P : Nat → Nat → Prop} {μ m : j_M} {n i : Nat} (h : Fm P μ m) (hp : ∀ j, 8 * n ≤ j → j < 8 * n + i → P 8 j) : Fm P μ (zh m n i) := ⟨fun c j q => by
  show (if c = 8 ∧ 8 * n ≤ j ∧ j < 8 * n + i then (0 : Int32) else m.1 c j) = μ.1 c j
  rw [if_neg (fun z => q (by rw [z.1]; exact hp j z.2.1 z.2.2))]
  exact h.1 c j q, h.2⟩
theorem SE_G {μ m : j_M} (hn : nn μ ≤ 8) (hn1 : μ.1 0 1 = nI (nn μ)) (h : SE μ m) : Fm PG μ m ∧ ∃ n, n ≤ 8 ∧ m.1 0 1 = nI n := by
  rcases h with ⟨x, v, h1, h2, rfl⟩ | ⟨x, h1, rfl⟩ | ⟨h8, x, v, g, h1, h2, h3, rfl⟩ | ⟨x, v, h1, h2, rfl⟩ | ⟨x, v, h1, h2, rfl⟩ | ⟨x, v, h1, h2, rfl⟩
  · exact ⟨Fm.rf.pI (by omega), _, hn, (j_pI_off (by omega)).trans hn1⟩
  · exact ⟨Fm.rf.pI (by omega), _, hn, (j_pI_off (by omega)).trans hn1⟩
  · refine ⟨?_, _, by omega, nl_1⟩
    unfold m_nl
    refine (zh_G ((((((Fm.rf.pI ?_).pI ?_).pI ?_).pI ?_).pI ?_).pI ?_) ?_).pI ?_
    all_goals first | omega | (intro j z1 z2; omega)
  · exact ⟨Fm.rf.pI (by omega), _, hn, (j_pI_off (by omega)).trans hn1⟩
  · exact ⟨Fm.rf.pI (by omega), _, hn, (j_pI_off (by omega)).trans hn1⟩
  · exact ⟨Fm.rf.pI (by omega), _, hn, (j_pI_off (by omega)).trans hn1⟩
theorem tk_semi {t : Nat → Int32} {n a : Nat} (h : tkK t n a = nI 59) (ha : a ≤ n) : a < tkT t n a := by
  have hf := tkF_le (t := t) ha
  unfold tkK at h
  by_cases h1 : tkF t n a = n
  · rw [if_pos h1] at h; exact absurd h (by decide)
  · rw [if_neg h1] at h
    unfold tkT
    rw [if_neg h1]
    by_cases h2 : isL (t (tkF t n a)) = true
    · rw [if_pos h2] at h; exact absurd h (by decide)
    · rw [if_neg h2] at h ⊢
      by_cases h3 : isD (t (tkF t n a)) = true
      · rw [if_pos h3] at h
        split at h <;> exact absurd h (by decide)
      · rw [if_neg h3]; omega
def wlS (t : Nat → Int32) (n : Nat) : Nat → Nat → Nat → j_M → Sum Nat (Nat × j_M)
  | 0, _, _, _ => .inl 0
  | F + 1, a, k, μ => match stS t n (tkK t n a) (tkF t n a) (tkT t n a) μ with
    | .inl g => .inl g
    | .inr q => if tkK t n q.1 = nI 101 then .inr (k + 1, q.2) else if tkK t n q.1 = nI 59 then wlS t n F (tkT t n q.1) (k + 1) q.2 else .inl (tkF t n q.1)
def f251 : Nat := 251
def s_window (μ : j_M) : Int32 × j_M := match wlS (μ.1 9) (ix (μ.1 0 11)) f251 0 0 μ with
  | .inl g => ((-20) - nI g, j_pI (j_pI μ 0 11 (nI 0)) 13 2 (μ.1 13 2 + 1))
  | .inr q => (nI q.1, j_pI q.2 0 11 (nI 0))
def WLI (μ : j_M) (t a k F : Nat) (μs μ' : j_M) : Prop := nn μs ≤ 8 ∧ μs.1 0 1 = nI (nn μs) ∧ μ'.1 0 14 = nI a ∧ a ≤ t ∧ Fm PA μs μ' ∧ Fm PG μ μs ∧ (∀ j, j < 127 → μ'.1 15 j = ktV μ.1 j) ∧ wlS (μ.1 9) t F a k μs = wlS (μ.1 9) t f251 0 0 μ ∧ t - a < F ∧ k + F = 251
theorem whd_kt {w : Nat → Nat → Int32} {c j : Nat} (h : aAll c j = true) : ktV w (if c = 0 then (if j = 1 then 124 else if j = 9 then 125 else 126) else if c = 1 then j else if c = 8 then 60 + j else 12 + 8 * (c - 2) + j) = w c j ∧ (if c = 0 then (if j = 1 then 124 else if j = 9 then 125 else 126) else if c = 1 then j else if c = 8 then 60 + j else 12 + 8 * (c - 2) + j) < 127 := by
  have h2 := of_decide_eq_true h
  rcases h2 with ⟨rfl, h2⟩ | ⟨h1, h3, h2⟩ | ⟨rfl, h2⟩ | ⟨rfl, h2⟩
  · refine ⟨show ktV w j = w 1 j from ?_, show j < 127 by omega⟩
    unfold ktV
    rw [if_pos h2]
  · rw [if_neg (by omega), if_neg (by omega), if_neg (by omega)]
    refine ⟨?_, by omega⟩
    have := kt_l (w := w) (d := c - 2) (k := j) (by omega) h2
    rw [← this, show 2 + (c - 2) = c by omega]
  · refine ⟨show ktV w (60 + j) = w 8 j from ?_, show 60 + j < 127 by omega⟩
    unfold ktV
    rw [if_neg (by omega), if_neg (by omega), if_pos (by omega), show 60 + j - 60 = j by omega]
  · rcases h2 with rfl | rfl | rfl <;> exact ⟨rfl, by decide⟩
theorem AN_back {μ m : j_M} (h : Fm PQ μ m) (h2 : ∀ j, j < 127 → m.1 15 j = ktV μ.1 j) : Fm PS μ (AN m aAll) := ⟨fun c j q => by
  by_cases e : aAll c j = true
  · rw [AN_y e]
    have hw := whd_kt (w := μ.1) e
    show m.1 15 _ = _
    rw [h2 _ hw.2]
    exact hw.1
  · rw [AN_w e]
    refine h.1 c j ?_
    intro z
    have e2 : ¬ ((c = 1 ∧ j < 12) ∨ (2 ≤ c ∧ c ≤ 7 ∧ j < 8) ∨ (c = 8 ∧ j < 64) ∨ (c = 0 ∧ (j = 1 ∨ j = 9 ∨ j = 10))) := fun z => e (decide_eq_true z)
    omega, h.2⟩
theorem PA_PS {a b : j_M} (h : Fm PA a b) : Fm PS a b := h.mono (fun c j q => by omega)
theorem KN_ini {μ : j_M} : Fm PA μ (j_pI (KN μ kAll) 0 14 (nI 0)) ∧ ∀ j, j < 127 → (j_pI (KN μ kAll) 0 14 (nI 0)).1 15 j = ktV μ.1 j := by
  refine ⟨Fm.pI ⟨fun c j q => KN_w (by omega), rfl⟩ (by omega), fun j hj => ?_⟩
  rw [j_pI_off (by omega)]
  exact if_pos ⟨rfl, decide_eq_true hj⟩
def STw (o : Sum Nat (Nat × j_M)) (r : Int32) (b μ2 : j_M) : Prop := match o with
  | .inl g => r = 0 ∧ μ2.1 0 13 = nI g ∧ Fm PA b μ2
  | .inr q => r = 1 ∧ μ2.1 0 14 = nI q.1 ∧ Fm PA q.2 μ2
theorem ST_w {t : Nat → Int32} {n f e : Nat} {kd r : Int32} {a b μ2 : j_M} (h : Fm PA a b) (h2 : ST (stS t n kd f e b) r b μ2) : STw (stS t n kd f e a) r a μ2 := by
  have hr := stS_F (P := PA) (fun c j z => by omega) h (t := t) (n := n) (f := f) (e := e) (kd := kd)
  rcases e1 : stS t n kd f e a with g | q <;> rcases e2 : stS t n kd f e b with g2 | q2 <;> rw [e1, e2] at hr <;> rw [e2] at h2
  · cases hr; exact ⟨h2.1, h2.2.1, h.tr (h2.2.2.mono (fun c j z => Or.inl z))⟩
  · exact hr.elim
  · exact hr.elim
  · exact ⟨h2.1, h2.2.1.trans (by rw [hr.1]), hr.2.tr (h2.2.2.mono (fun c j z => Or.inl z))⟩
theorem wl_l {t : Nat → Int32} {n F a k g : Nat} {μ : j_M} (hF : 0 < F) (h : stS t n (tkK t n a) (tkF t n a) (tkT t n a) μ = .inl g) : wlS t n F a k μ = .inl g := by
  obtain ⟨f, rfl⟩ : ∃ f, F = f + 1 := ⟨F - 1, by omega⟩
  simp only [wlS, h]
theorem wl_e {t : Nat → Int32} {n F a k : Nat} {μ : j_M} {q : Nat × j_M} (hF : 0 < F) (h : stS t n (tkK t n a) (tkF t n a) (tkT t n a) μ = .inr q) (h2 : tkK t n q.1 = nI 101) : wlS t n F a k μ = .inr (k + 1, q.2) := by
  obtain ⟨f, rfl⟩ : ∃ f, F = f + 1 := ⟨F - 1, by omega⟩
  simp only [wlS, h]
  rw [if_pos h2]
theorem wl_s {t : Nat → Int32} {n F a k : Nat} {μ : j_M} {q : Nat × j_M} (hF : 0 < F) (h : stS t n (tkK t n a) (tkF t n a) (tkT t n a) μ = .inr q) (h2 : tkK t n q.1 = nI 59) : wlS t n F a k μ = wlS t n (F - 1) (tkT t n q.1) (k + 1) q.2 := by
  obtain ⟨f, rfl⟩ : ∃ f, F = f + 1 := ⟨F - 1, by omega⟩
  simp only [wlS, h]
  rw [if_neg (by rw [h2]; decide), if_pos h2]
  rfl
theorem wl_x {t : Nat → Int32} {n F a k : Nat} {μ : j_M} {q : Nat × j_M} (hF : 0 < F) (h : stS t n (tkK t n a) (tkF t n a) (tkT t n a) μ = .inr q) (h1 : ¬ tkK t n q.1 = nI 101) (h2 : ¬ tkK t n q.1 = nI 59) : wlS t n F a k μ = .inl (tkF t n q.1) := by
  obtain ⟨f, rfl⟩ : ∃ f, F = f + 1 := ⟨F - 1, by omega⟩
  simp only [wlS, h]
  rw [if_neg h1, if_neg h2]

abbrev PGT (c j : Nat) : Prop := PG c j ∨ PT c j
theorem ST_g {t : Nat → Int32} {n f e : Nat} {kd r : Int32} {b μ2 : j_M} (hn : nn b ≤ 8) (hn1 : b.1 0 1 = nI (nn b)) (he : e ≤ n) (h2 : ST (stS t n kd f e b) r b μ2) : Fm PGT b μ2 := by
  rcases h : stS t n kd f e b with g | q <;> rw [h] at h2
  · exact h2.2.2.mono (fun c j z => Or.inr z)
  · obtain ⟨-, -, hE⟩ := stS_b hn he h
    exact ((SE_G hn hn1 hE).1.mono (fun c j z => Or.inl z)).tr (h2.2.2.mono (fun c j z => Or.inr z))

set_option maxRecDepth 100000 in
theorem c_X10_window  (μ : j_M) (hM : MI μ) : Ct yX10_window cX10_window 3 (some .int) 6 ΛM [.ref 0] μ (pI fun r μ2 => r = (s_window μ).1 ∧ Fm PS (s_window μ).2 μ2) := by
  refine Ct.go (lo := [some (.ref 0), none, none]) (by decide) (Nat.le_of_ble_eq_true rfl) rfl rfl (fun X F => ?_)
  have F : Fx X cX10_window RX10 6 (some .int) ΛM := F
  obtain ⟨n, hW, hsh, htp, him⟩ := id hM
  have hn := hW.1
  have hn8 := hW.2.1
  have hnn := nn_eq hn hn8
  have ho := hW.own
  have hrw : RW μ.1 n μ := RW.self hn
  have hpw := j_pw hn8
  obtain ⟨t, ht2, ht⟩ := htp
  have ekt : ix (μ.1 0 11) = t := by rw [ht]; exact ix_nI (by omega)
  refine v_aload_n (pc := 0) (i := 0) F dX10_window_0 rfl rfl ?_
  refine v_aload_n (pc := 1) (i := 0) F dX10_window_1 rfl rfl ?_
  refine v_getR (pc := 2) (o := 15) F fX10_53 dX10_window_2 rfl lm0 ?_
  refine v_topR (y := 15) rfl ?_
  refine v_callVV (pc := 5) (As := [_]) (rest := []) (c := 10) F mX10_keep kX10_183 im_X10_keep se_X10_keep dX10_window_5 rfl rfl (by decide) (c_X10_keep15 _) (by decide) rfl rfl (Nat.le_of_ble_eq_true rfl) lm0 (fun μ1 hp1 => ?_)
  rw [hp1]
  refine v_aload_n (pc := 8) (i := 0) F dX10_window_8 rfl rfl ?_
  refine v_iconst (pc := 9) (v := nI 0) F dX10_window_9 (by decide) ?_
  refine v_put (pc := 10) F fX10_134 dX10_window_10 rfl rfl rfl lm0 ?_
  refine v_iconst (pc := 13) (v := nI 0) F dX10_window_13 (by decide) ?_
  refine v_istore_n (pc := 14) (lo' := [some (.ref _), some (.int _), _]) F dX10_window_14 rfl rfl (Nat.le_of_ble_eq_true rfl) rfl ?_
  refine v_iconst (pc := 15) (v := nI 1) F dX10_window_15 (by decide) ?_
  refine v_istore_n (pc := 16) (lo' := [some (.ref _), some (.int _), some (.int _)]) F dX10_window_16 rfl rfl (Nat.le_of_ble_eq_true rfl) rfl ?_
  refine j_dec (fun a => t - a) (fun a => ∀ (k fu : Nat) (μs μ' : j_M), WLI μ t a k fu μs μ' → V X _ 17 [some (.ref 0), some (.int (nI k)), some (.int (nI 1))] [] μ') (fun a ih k fu μs μ' hI => ?_) 0 0 251 μ _ ⟨by omega, by rw [hnn]; exact hn, j_pI_at, Nat.zero_le _, KN_ini.1, Fm.rf, KN_ini.2, rfl, by omega, rfl⟩
  obtain ⟨g1, g2, g3, g4, g5, g6, g7, g8, g9, g10⟩ := hI
  have fq : Fm PQ μ μ' := (g6.mono (fun c j z => Or.inl z)).tr (g5.mono (fun c j z => Or.inr z))
  have ht' : μ'.1 0 11 = nI t := (fq.1 0 11 (by omega)).trans ht
  have hb1 := tkF_le (t := μ.1 9) g4
  have hb2 := tkT_le (t := μ.1 9) g4
  refine v_iload_n (pc := 17) (i := 2) F dX10_window_17 rfl rfl ?_
  refine v_if_eq (pc := 18) (tgt := 78) F dX10_window_18 (by decide) (fun h18_2 => ?_) (fun h18_2 => ?_)
  · rw [j_eq0 (by omega)] at h18_2
    exact absurd h18_2 (by decide)
  · rw [j_eq0 (by omega)] at h18_2
    refine v_aload_n (pc := 21) (i := 0) F dX10_window_21 rfl rfl ?_
    refine v_callVV (pc := 22) (As := []) (rest := []) (c := 10) F mX10_next kX10_162 im_X10_next se_X10_next dX10_window_22 rfl rfl (by decide) (c_X10_next t a _ ht' ht2 g3 g4) (by decide) rfl rfl (Nat.le_of_ble_eq_true rfl) lm0 (fun μ3 hp3 => ?_)
    obtain ⟨n1, n2, n3, n4, -⟩ := hp3
    rw [show μ'.1 9 = μ.1 9 from funext fun j => fq.1 9 j (by omega)] at n2 n3 n4
    refine v_aload_n (pc := 25) (i := 0) F dX10_window_25 rfl rfl ?_
    refine v_callVI (pc := 26) (As := []) (rest := []) (c := 10) F mX10_statement kX10_187 im_X10_statement se_X10_statement dX10_window_26 rfl rfl (by decide) (c_X10_statement (μ.1 9) t (tkF (μ.1 9) t a) (tkT (μ.1 9) t a) (nn μs) μ3 (funext fun j => (n1.1 9 j (by omega)).trans (fq.1 9 j (by omega))) ((n1.1 0 11 (by omega)).trans ht') ht2 n2 n3 hb2.1 hb2.2 ((n1.1 0 1 (by omega)).trans ((g5.1 0 1 (by omega)).trans g2)) g1) (by decide) rfl rfl (Nat.le_of_ble_eq_true rfl) lm0 (fun x4 μ4 hp4 => ?_)
    skip
    have hm1' : μ3.1 0 1 = nI (nn μs) := (n1.1 0 1 (by omega)).trans ((g5.1 0 1 (by omega)).trans g2)
    have hnm : nn μ3 = nn μs := nn_eq hm1' g1
    have fgt := ST_g (by rw [hnm]; exact g1) (by rw [hnm]; exact hm1') hb2.2 hp4
    have hw := ST_w (g5.tr (n1.mono (fun c j z => Or.inl z))) hp4
    rw [n4] at hw
    have a152 : ∀ j, j < 127 → μ4.1 15 j = ktV μ.1 j := fun j hj => (fgt.1 15 j (by omega)).trans ((n1.1 15 j (by omega)).trans (g7 j hj))
    rcases hS : stS (μ.1 9) t (tkK (μ.1 9) t a) (tkF (μ.1 9) t a) (tkT (μ.1 9) t a) μs with g | q
    · skip
      rw [hS] at hw
      obtain ⟨w1, w2, w3⟩ := hw
      refine v_topE (y := nI 0) w1 ?_
      have hfl := (wl_l (by omega) hS (k := k)).symm.trans g8
      have ffq : Fm PQ μ _ := (g6.mono (fun c j z => Or.inl z)).tr (w3.mono (fun c j z => Or.inr z))
      have ffa := a152
      have ff := w2
      refine v_istore_n (pc := 29) (lo' := [some (.ref _), some (.int _), some (.int _)]) F dX10_window_29 rfl rfl (Nat.le_of_ble_eq_true rfl) rfl ?_
      refine v_iload_n (pc := 30) (i := 2) F dX10_window_30 rfl rfl ?_
      refine v_if_ne (pc := 31) (tgt := 37) F dX10_window_31 (by decide) (fun h31_5 => ?_) (fun h31_5 => ?_)
      · rw [j_eq0 (by omega)] at h31_5
        exact absurd h31_5 (by decide)
      · rw [j_eq0 (by omega)] at h31_5
        refine v_goto (pc := 34) (tgt := 17) F dX10_window_34 (by decide) ?_
        refine v_iload_n (pc := 17) (i := 2) F dX10_window_17 rfl rfl ?_
        refine v_if_eq (pc := 18) (tgt := 78) F dX10_window_18 (by decide) (fun h18_6 => ?_) (fun h18_6 => ?_)
        · rw [j_eq0 (by omega)] at h18_6
          refine v_aload_n (pc := 78) (i := 0) F dX10_window_78 rfl rfl ?_
          refine v_aload_n (pc := 79) (i := 0) F dX10_window_79 rfl rfl ?_
          refine v_getR (pc := 80) (o := 15) F fX10_53 dX10_window_80 rfl lm0 ?_
          refine v_topR (y := 15) rfl ?_
          refine v_callVV (pc := 83) (As := [_]) (rest := []) (c := 10) F mX10_again kX10_191 im_X10_again se_X10_again dX10_window_83 rfl rfl (by decide) (c_X10_again15 _) (by decide) rfl rfl (Nat.le_of_ble_eq_true rfl) lm0 (fun μ7 hp7 => ?_)
          rw [hp7]
          refine v_aload_n (pc := 86) (i := 0) F dX10_window_86 rfl rfl ?_
          refine v_iconst (pc := 87) (v := nI 0) F dX10_window_87 (by decide) ?_
          refine v_put (pc := 88) F fX10_131 dX10_window_88 rfl rfl rfl lm0 ?_
          refine v_aload_n (pc := 91) (i := 0) F dX10_window_91 rfl rfl ?_
          refine v_bipush (pc := 92) (v := (-2)) F dX10_window_92 (by decide) ?_
          refine v_callVI (pc := 94) (As := [_]) (rest := []) (c := 10) F mX10_no kX10_96 im_X10_no se_X10_no dX10_window_94 rfl rfl (by decide) (c_X10_no (-2) 2 (by decide) (by decide) _) (by decide) rfl rfl (Nat.le_of_ble_eq_true rfl) lm0 (fun x8 μ8 hp8 => ?_)
          rw [hp8.1, hp8.2]
          refine v_pop (pc := 97) F dX10_window_97 rfl ?_
          refine v_bipush (pc := 98) (v := (-20)) F dX10_window_98 (by decide) ?_
          refine v_aload_n (pc := 100) (i := 0) F dX10_window_100 rfl rfl ?_
          refine v_getI (pc := 101) F fX10_137 dX10_window_101 rfl lm0 ?_
          refine v_topE (y := nI g) ((j_pI_off (by omega)).trans ((j_pI_off (by omega)).trans ((AN_w (by decide)).trans ff))) ?_
          refine v_isub (pc := 104) F dX10_window_104 ?_
          refine v_ireturn (pc := 105) F dX10_window_105 (rfl) ?_
          have hA := AN_back ffq ffa
          unfold s_window
          rw [ekt, ← hfl]
          refine ⟨rfl, ?_⟩
          show Fm PS (j_pI (j_pI μ 0 11 (nI 0)) 13 2 (μ.1 13 2 + 1)) _
          rw [j_pI_off (by omega), hA.1 13 2 (by omega)]
          exact hA.both.both
        · rw [j_eq0 (by omega)] at h18_6
          exact absurd h18_6 (by decide)
    · skip
      rw [hS] at hw
      obtain ⟨w1, w2, w3⟩ := hw
      refine v_topE (y := nI 1) w1 ?_
      obtain ⟨hqe, hqn, hE⟩ := stS_b g1 hb2.2 hS
      obtain ⟨hG, m, hm8, hm1⟩ := SE_G g1 g2 hE
      refine v_istore_n (pc := 29) (lo' := [some (.ref _), some (.int _), some (.int _)]) F dX10_window_29 rfl rfl (Nat.le_of_ble_eq_true rfl) rfl ?_
      refine v_iload_n (pc := 30) (i := 2) F dX10_window_30 rfl rfl ?_
      refine v_if_ne (pc := 31) (tgt := 37) F dX10_window_31 (by decide) (fun h31_9 => ?_) (fun h31_9 => ?_)
      · rw [j_eq0 (by omega)] at h31_9
        refine v_iinc (pc := 37) (i := 1) (v := nI (k + 1)) (lo' := [some (.ref _), some (.int _), some (.int _)]) F dX10_window_37 rfl (j_inc _) rfl rfl ?_
        refine v_aload_n (pc := 40) (i := 0) F dX10_window_40 rfl rfl ?_
        have fqq : Fm PQ μ μ4 := ((g6.tr hG).mono (fun c j z => Or.inl z)).tr (w3.mono (fun c j z => Or.inr z))
        refine v_callVV (pc := 41) (As := []) (rest := []) (c := 10) F mX10_next kX10_162 im_X10_next se_X10_next dX10_window_41 rfl rfl (by decide) (c_X10_next t q.1 _ ((fqq.1 0 11 (by omega)).trans ht) ht2 w2 hqn) (by decide) rfl rfl (Nat.le_of_ble_eq_true rfl) lm0 (fun μ10 hp10 => ?_)
        obtain ⟨m1, m2, m3, m4, -⟩ := hp10
        rw [show μ4.1 9 = μ.1 9 from funext fun j => fqq.1 9 j (by omega)] at m2 m3 m4
        have fa3 := w3.tr (m1.mono (fun c j z => Or.inl z))
        have a153 : ∀ j, j < 127 → μ10.1 15 j = ktV μ.1 j := fun j hj => (m1.1 15 j (by omega)).trans (a152 j hj)
        refine v_aload_n (pc := 44) (i := 0) F dX10_window_44 rfl rfl ?_
        refine v_getI (pc := 45) F fX10_140 dX10_window_45 rfl lm0 ?_
        refine v_topE (m4) ?_
        refine v_bipush (pc := 48) (v := nI 101) F dX10_window_48 (by decide) ?_
        refine v_icmp_ne (pc := 50) (tgt := 60) F dX10_window_50 (by decide) (fun h101 => ?_) (fun h101 => ?_)
        · skip
          refine v_aload_n (pc := 60) (i := 0) F dX10_window_60 rfl rfl ?_
          refine v_getI (pc := 61) F fX10_140 dX10_window_61 rfl lm0 ?_
          refine v_topE (m4) ?_
          refine v_bipush (pc := 64) (v := nI 59) F dX10_window_64 (by decide) ?_
          refine v_icmp_ne (pc := 66) (tgt := 73) F dX10_window_66 (by decide) (fun h59 => ?_) (fun h59 => ?_)
          · skip
            have hfl := (wl_x (by omega) hS h101 h59 (k := k)).symm.trans g8
            have ffq : Fm PQ μ _ := ((g6.tr hG).mono (fun c j z => Or.inl z)).tr (fa3.mono (fun c j z => Or.inr z))
            have ffa := a153
            have ff := m2
            refine v_iconst (pc := 73) (v := nI 0) F dX10_window_73 (by decide) ?_
            refine v_istore_n (pc := 74) (lo' := [some (.ref _), some (.int _), some (.int _)]) F dX10_window_74 rfl rfl (Nat.le_of_ble_eq_true rfl) rfl ?_
            refine v_goto (pc := 75) (tgt := 17) F dX10_window_75 (by decide) ?_
            refine v_iload_n (pc := 17) (i := 2) F dX10_window_17 rfl rfl ?_
            refine v_if_eq (pc := 18) (tgt := 78) F dX10_window_18 (by decide) (fun h18_13 => ?_) (fun h18_13 => ?_)
            · rw [j_eq0 (by omega)] at h18_13
              refine v_aload_n (pc := 78) (i := 0) F dX10_window_78 rfl rfl ?_
              refine v_aload_n (pc := 79) (i := 0) F dX10_window_79 rfl rfl ?_
              refine v_getR (pc := 80) (o := 15) F fX10_53 dX10_window_80 rfl lm0 ?_
              refine v_topR (y := 15) rfl ?_
              refine v_callVV (pc := 83) (As := [_]) (rest := []) (c := 10) F mX10_again kX10_191 im_X10_again se_X10_again dX10_window_83 rfl rfl (by decide) (c_X10_again15 _) (by decide) rfl rfl (Nat.le_of_ble_eq_true rfl) lm0 (fun μ14 hp14 => ?_)
              rw [hp14]
              refine v_aload_n (pc := 86) (i := 0) F dX10_window_86 rfl rfl ?_
              refine v_iconst (pc := 87) (v := nI 0) F dX10_window_87 (by decide) ?_
              refine v_put (pc := 88) F fX10_131 dX10_window_88 rfl rfl rfl lm0 ?_
              refine v_aload_n (pc := 91) (i := 0) F dX10_window_91 rfl rfl ?_
              refine v_bipush (pc := 92) (v := (-2)) F dX10_window_92 (by decide) ?_
              refine v_callVI (pc := 94) (As := [_]) (rest := []) (c := 10) F mX10_no kX10_96 im_X10_no se_X10_no dX10_window_94 rfl rfl (by decide) (c_X10_no (-2) 2 (by decide) (by decide) _) (by decide) rfl rfl (Nat.le_of_ble_eq_true rfl) lm0 (fun x15 μ15 hp15 => ?_)
              rw [hp15.1, hp15.2]
              refine v_pop (pc := 97) F dX10_window_97 rfl ?_
              refine v_bipush (pc := 98) (v := (-20)) F dX10_window_98 (by decide) ?_
              refine v_aload_n (pc := 100) (i := 0) F dX10_window_100 rfl rfl ?_
              refine v_getI (pc := 101) F fX10_137 dX10_window_101 rfl lm0 ?_
              refine v_topE (y := nI ((tkF (μ.1 9) t q.1))) ((j_pI_off (by omega)).trans ((j_pI_off (by omega)).trans ((AN_w (by decide)).trans ff))) ?_
              refine v_isub (pc := 104) F dX10_window_104 ?_
              refine v_ireturn (pc := 105) F dX10_window_105 (rfl) ?_
              have hA := AN_back ffq ffa
              unfold s_window
              rw [ekt, ← hfl]
              refine ⟨rfl, ?_⟩
              show Fm PS (j_pI (j_pI μ 0 11 (nI 0)) 13 2 (μ.1 13 2 + 1)) _
              rw [j_pI_off (by omega), hA.1 13 2 (by omega)]
              exact hA.both.both
            · rw [j_eq0 (by omega)] at h18_13
              exact absurd h18_13 (by decide)
          · skip
            refine v_iconst (pc := 69) (v := nI 1) F dX10_window_69 (by decide) ?_
            refine v_goto (pc := 70) (tgt := 74) F dX10_window_70 (by decide) ?_
            refine v_istore_n (pc := 74) (lo' := [some (.ref _), some (.int _), some (.int _)]) F dX10_window_74 rfl rfl (Nat.le_of_ble_eq_true rfl) rfl ?_
            refine v_goto (pc := 75) (tgt := 17) F dX10_window_75 (by decide) ?_
            have hs2 : tkK (μ.1 9) t q.1 = nI 59 := h59
            have hlt := tk_semi hs2 hqn
            have hle := tkT_le (t := μ.1 9) hqn
            exact ih (tkT (μ.1 9) t q.1) (by omega) (k + 1) (fu - 1) q.2 _ ⟨by rw [nn_eq hm1 hm8]; exact hm8, by rw [nn_eq hm1 hm8]; exact hm1, m3, hle.2, fa3, g6.tr hG, a153, (wl_s (by omega) hS hs2).symm.trans g8, by omega, by omega⟩
        · skip
          refine v_aload_n (pc := 53) (i := 0) F dX10_window_53 rfl rfl ?_
          refine v_iconst (pc := 54) (v := nI 0) F dX10_window_54 (by decide) ?_
          refine v_put (pc := 55) F fX10_131 dX10_window_55 rfl rfl rfl lm0 ?_
          refine v_iload_n (pc := 58) (i := 1) F dX10_window_58 rfl rfl ?_
          refine v_ireturn (pc := 59) F dX10_window_59 (rfl) ?_
          unfold s_window
          rw [ekt, ← (wl_e (by omega) hS h101 (k := k)).symm.trans g8]
          exact ⟨rfl, (PA_PS fa3).both⟩
      · rw [j_eq0 (by omega)] at h31_9
        exact absurd h31_9 (by decide)
