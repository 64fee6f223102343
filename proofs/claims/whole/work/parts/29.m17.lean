/-! the reference's evenings in truth -/
theorem lK_sp {P : Nat → Bool} : ∀ n p, lK P n = some p → P p = true := by
  intro n
  induction n with
  | zero => intro p h; cases h
  | succ n ih =>
    intro p h
    by_cases hp : P n = true
    · rw [lK_t hp] at h; rw [← Option.some.inj h]; exact hp
    · rw [lK_f hp] at h; exact ih p h
theorem likB_ne {a lk s : Int32} (h : likB a lk s = true) : ¬ s = -1 := (likB_iff.mp h).1
theorem lookO_ne {a lk : Int32} {u : Nat → Int32} {p : Nat} (ha : ¬ a = -1) (h : lookO a lk u = some p) : ¬ u p = -1 := by
  unfold lookO at h
  rcases e : fP (fun p => u p == a) with _ | q
  · rw [e] at h
    exact likB_ne (fP_spec h).2.1
  · rw [e] at h
    simp only [Option.some.injEq] at h
    subst h
    have := (fP_spec e).2.1
    simp only [beq_iff_eq] at this
    rw [this]; exact ha
theorem rmL_ne {u : Nat → Int32} {L : List Nat} {p : Nat} (h : ¬ rmL u L p = -1) : ¬ u p = -1 := by
  unfold rmL at h
  by_cases hp : p ∈ L
  · rw [if_pos hp] at h; exact absurd rfl h
  · rwa [if_neg hp] at h
theorem tkChild_ne {a lk : Int32} {u : Nat → Int32} {p : Nat} (ha : ¬ a = -1) (h : p ∈ tkChild a lk u) : ¬ u p = -1 := by
  unfold tkChild at h
  rcases List.mem_append.mp h with z | z
  · exact lookO_ne ha (by simpa using z)
  · exact rmL_ne (lookO_ne ha (by simpa using z))
theorem shyO_ne {a lk : Int32} {u : Nat → Int32} : ∀ s p, s ≤ 8 → (shyO a lk u s).2 = some p → ¬ u p = -1 := by
  intro s
  induction s with
  | zero => intro p _ h; cases h
  | succ s ih =>
    intro p hs h
    by_cases hc : likB a lk (nI s) = true ∧ (shyO a lk u s).1 < cP (fun p => u p == nI s)
    · rw [show shyO a lk u (s + 1) = (cP (fun p => u p == nI s), fP (fun p => u p == nI s)) from if_pos hc] at h
      have := (fP_spec (show fP (fun p => u p == nI s) = some p from h)).2.1
      simp only [beq_iff_eq] at this
      rw [this]; exact j_m1 (by omega)
    · rw [show shyO a lk u (s + 1) = shyO a lk u s from if_neg hc] at h
      exact ih p (by omega) h
theorem tk_ne {k a lk : Int32} {u : Nat → Int32} {p : Nat} (ha : ¬ a = -1) (h : p ∈ tk k a lk u) : ¬ u p = -1 := by
  unfold tk at h
  split at h
  · exact likB_ne (lK_sp (P := fun p => likB a lk (u p)) 12 p (show lP (fun p => likB a lk (u p)) = some p by simpa using h))
  split at h
  · split at h
    · exact tkChild_ne ha h
    · have := (List.mem_filter.mp h).2
      simp only [beq_iff_eq] at this
      rw [this]; exact ha
  split at h
  · split at h
    · cases h
    · rename_i q hq
      split at h
      · rw [List.mem_singleton.mp h]; exact likB_ne (lK_sp 12 q hq)
      · cases h
  split at h
  · exact shyO_ne 8 p (Nat.le_refl _) (by simpa using h)
  split at h
  · exact tkChild_ne ha h
  · exact lookO_ne ha (by simpa using h)
theorem goT_ne {w : Nat → Nat → Int32} {A : List Nat} {x p : Nat} {u : Nat → Int32} (ha : ∀ l ∈ A, ¬ w 3 l = -1) (h : p ∈ goT w A u x) : ¬ u p = -1 := by
  induction A generalizing u with
  | nil => cases h
  | cons a A ih =>
    simp only [goT] at h
    split at h
    · exact tk_ne (ha a List.mem_cons_self) h
    · exact rmL_ne (ih (fun l hl => ha l (List.mem_cons_of_mem _ hl)) h)
theorem tE_ne {w : Nat → Nat → Int32} {n : Nat} {set : Int32} {l p : Nat} (ha : ∀ l, l < n → ¬ w 3 l = -1) (h : p ∈ tE w n set l) : ¬ w 1 p = -1 := goT_ne (fun l hl => ha l (ordO_mem.mp hl).1) h
/-- one thing more -/
def gn1 (m : j_M) (l : Nat) (v : Int32) : j_M := j_pI m 8 (8 * l + ix v) (jmin (nI 99) (m.1 8 (8 * l + ix v) + nI 1))
def gnP (t : Nat → Int32) (T : List Nat) (l : Nat) (m : j_M) : Nat → j_M
  | 0 => m
  | p + 1 => if p ∈ T then gn1 (gnP t T l m p) l (t p) else gnP t T l m p
def goL (t : Nat → Int32) (Tf : Nat → List Nat) (m : j_M) : Nat → j_M
  | 0 => m
  | l + 1 => if (Tf l).isEmpty = true then gnP t (Tf l) l (goL t Tf m l) 12 else j_pI (gnP t (Tf l) l (goL t Tf m l) 12) 7 l (t ((Tf l).head?.getD 0))
def goF (u : Nat → Int32) (m : j_M) (k : Nat) : j_M := (fun c j => if c = 1 ∧ j < k then u j else m.1 c j, m.2)
def suN (f : Nat → Nat) : Nat → Nat
  | 0 => 0
  | l + 1 => suN f l + f l
def gcN (T : List Nat) (k : Nat) : Nat := cK (fun p => decide (p ∈ T)) k
def s_goes (set : Int32) (μ : j_M) : Int32 × j_M := (nI (suN (fun l => gcN (tE μ.1 (nn μ) set l) 12) (nn μ)), j_pI (goF (uE μ.1 (nn μ) set) (goL (μ.1 1) (tE μ.1 (nn μ) set) μ (nn μ)) 12) 0 9 (μ.1 0 9 + nI 1))
def s_evening (set : Int32) (μ : j_M) : Int32 × j_M := if inQ (2 ^ nn μ) set = true then s_goes set μ else rj (-2) 2 μ
theorem suN_le {f : Nat → Nat} {b : Nat} : ∀ k, (∀ l, f l ≤ b) → suN f k ≤ b * k := by
  intro k h
  induction k with
  | zero => exact Nat.zero_le _
  | succ k ih => have := h k; show suN f k + f k ≤ b * (k + 1); rw [Nat.mul_succ]; omega
theorem gn1_F {a b : j_M} {l : Nat} {v : Int32} (h : Fm PS a b) : Fm PS (gn1 a l v) (gn1 b l v) := by
  unfold gn1
  rw [h.1 8 (8 * l + ix v) (by unfold PS; omega)]
  exact h.both
theorem gn1_o {a : j_M} {l : Nat} {v : Int32} {c j : Nat} (h : ¬ c = 8) : (gn1 a l v).1 c j = a.1 c j := congrFun (j_pI_ne h) j
theorem RP.wr {w : Nat → Nat → Int32} {O : List Nat} {μ : j_M} {c j : Nat} {v : Int32} (h : RP w O μ) (hc : c < 16) : RP w O (j_pI μ c j v) := ⟨fun p hp => by rw [j_pI_ne (by omega)]; exact h.1 p hp, fun l hl => by rw [j_pI_ne (by omega), j_pI_ne (by omega)]; exact h.2 l hl⟩
theorem goF_0 {u : Nat → Int32} {m : j_M} : goF u m 0 = m := by
  refine Prod.ext ?_ rfl
  funext c j
  exact if_neg (by omega)
theorem goF_s {u : Nat → Int32} {m : j_M} {k : Nat} : goF u m (k + 1) = j_pI (goF u m k) 1 k (u k) := by
  refine Prod.ext ?_ rfl
  funext c j
  by_cases e : c = 1 ∧ j = k
  · obtain ⟨e1, e2⟩ := e
    subst e1 e2
    rw [j_pI_at]
    exact if_pos ⟨rfl, by omega⟩
  · rw [j_pI_off (by omega)]
    show (if c = 1 ∧ j < k + 1 then u j else m.1 c j) = if c = 1 ∧ j < k then u j else m.1 c j
    by_cases q : c = 1 ∧ j < k
    · rw [if_pos q, if_pos ⟨q.1, by omega⟩]
    · rw [if_neg q, if_neg (fun z => q ⟨z.1, by omega⟩)]
theorem goL_t {t : Nat → Int32} {Tf : Nat → List Nat} {m : j_M} {l : Nat} (h : (Tf l).isEmpty = true) : goL t Tf m (l + 1) = gnP t (Tf l) l (goL t Tf m l) 12 := if_pos h
theorem goL_f {t : Nat → Int32} {Tf : Nat → List Nat} {m : j_M} {l : Nat} (h : ¬ (Tf l).isEmpty = true) : goL t Tf m (l + 1) = j_pI (gnP t (Tf l) l (goL t Tf m l) 12) 7 l (t ((Tf l).head?.getD 0)) := if_neg h
theorem gnP_t {t : Nat → Int32} {T : List Nat} {l : Nat} {m : j_M} {p : Nat} (h : p ∈ T) : gnP t T l m (p + 1) = gn1 (gnP t T l m p) l (t p) := if_pos h
theorem gnP_f {t : Nat → Int32} {T : List Nat} {l : Nat} {m : j_M} {p : Nat} (h : ¬ p ∈ T) : gnP t T l m (p + 1) = gnP t T l m p := if_neg h
theorem gcN_t {T : List Nat} {p : Nat} (h : p ∈ T) : gcN T (p + 1) = gcN T p + 1 := cK_t (by simpa using h)
theorem gcN_f {T : List Nat} {p : Nat} (h : ¬ p ∈ T) : gcN T (p + 1) = gcN T p := cK_f (by simpa using h)
theorem hd_get {T : List Nat} (h : ¬ T.isEmpty = true) : ∃ p, T.head? = some p ∧ p ∈ T := by
  cases T with
  | nil => exact absurd rfl h
  | cons p T => exact ⟨p, rfl, List.mem_cons_self⟩

theorem gnP_c {t : Nat → Int32} {T : List Nat} {l c j : Nat} {m : j_M} (hc : ¬ c = 8) : ∀ p, (gnP t T l m p).1 c j = m.1 c j := by
  intro p
  induction p with
  | zero => rfl
  | succ p ih =>
    by_cases h : p ∈ T
    · rw [gnP_t h, gn1_o hc]; exact ih
    · rw [gnP_f h]; exact ih
theorem goL_c {t : Nat → Int32} {Tf : Nat → List Nat} {m : j_M} {c j : Nat} (hc : ¬ c = 8) (h7 : ¬ c = 7) : ∀ l, (goL t Tf m l).1 c j = m.1 c j := by
  intro l
  induction l with
  | zero => rfl
  | succ l ih =>
    by_cases h : (Tf l).isEmpty = true
    · rw [goL_t h, gnP_c hc]; exact ih
    · rw [goL_f h, j_pI_ne h7, gnP_c hc]; exact ih

set_option maxRecDepth 100000 in
theorem c_X10_goes (set : Int32) (n : Nat) (μ : j_M) (hn : μ.1 0 1 = nI n) (hn8 : n ≤ 8) (ho : ∀ l, l < n → ¬ μ.1 3 l = -1) (ht1 : ∀ p, p < 12 → TH (μ.1 1 p)) (hnn : nn μ = n) : Ct yX10_goes cX10_goes 5 (some .int) 5 ΛM [.ref 0, .int set] μ (pI fun r μ2 => r = (s_goes set μ).1 ∧ Fm PS (s_goes set μ).2 μ2) := by
  refine Ct.go (lo := [some (.ref 0), some (.int set), none, none, none]) (by decide) (Nat.le_of_ble_eq_true rfl) rfl rfl (fun X F => ?_)
  have F : Fx X cX10_goes RX10 5 (some .int) ΛM := F
  refine v_aload_n (pc := 0) (i := 0) F dX10_goes_0 rfl rfl ?_
  refine v_iload_n (pc := 1) (i := 1) F dX10_goes_1 rfl rfl ?_
  refine v_callVV (pc := 2) (As := [_]) (rest := []) (c := 10) F mX10_runs kX10_117 im_X10_runs se_X10_runs dX10_goes_2 rfl rfl (by decide) (c_X10_runs _ n μ.1 _ (RW.self hn) hn8 ho) (by decide) rfl rfl (Nat.le_of_ble_eq_true rfl) lm0 (fun μ1 hp1 => ?_)
  have hq := hp1
  obtain ⟨OS, hOS⟩ : ∃ OS, OS = (ordO (μ.1 4) (tb set) n) := ⟨_, rfl⟩
  rw [← hOS] at hq
  have hn2 := (hq.1.1 0 1 (by omega)).trans hn
  generalize μ1 = μ' at hq hn2 ⊢
  refine v_iconst (pc := 5) (v := nI 0) F dX10_goes_5 (by decide) ?_
  refine v_istore_n (pc := 6) (lo' := [some (.ref _), some (.int _), some (.int _), _, _]) F dX10_goes_6 rfl rfl (Nat.le_of_ble_eq_true rfl) rfl ?_
  refine v_iconst (pc := 7) (v := nI 0) F dX10_goes_7 (by decide) ?_
  refine v_istore_n (pc := 8) (lo' := [some (.ref _), some (.int _), some (.int _), some (.int _), _]) F dX10_goes_8 rfl rfl (Nat.le_of_ble_eq_true rfl) rfl ?_
  refine j_up n (fun l => ∀ μ1 : j_M, (Fm PS (goL (μ.1 1) (tE μ.1 n set) μ l) μ1 ∧ RP μ.1 OS μ1 ∧ μ1.1 0 1 = nI n ∧ μ1.1 1 = μ.1 1) → V X _ 9 [some (.ref 0), some (.int set), some (.int (nI (suN (fun l => gcN (tE μ.1 n set l) 12) l))), some (.int (nI l)), none] [] μ1) (fun l hl ihl μ1 hI => ?_) 0 (Nat.zero_le _) μ' (⟨PB_PS hq.1, hq.2, hn2, funext fun j => hq.1.1 1 j (by omega)⟩)
  refine v_iload_n (pc := 9) (i := 3) F dX10_goes_9 rfl rfl ?_
  refine v_aload_n (pc := 10) (i := 0) F dX10_goes_10 rfl rfl ?_
  refine v_getI (pc := 11) F fX10_89 dX10_goes_11 rfl lm0 ?_
  refine v_topE (hI.2.2.1) ?_
  refine v_icmp_ge (pc := 14) (tgt := 126) F dX10_goes_14 (by decide) (fun h14_2 => ?_) (fun h14_2 => ?_)
  · rw [nI_leI (by omega) (by omega)] at h14_2
    refine v_iconst (pc := 126) (v := nI 0) F dX10_goes_126 (by decide) ?_
    refine v_istore_n (pc := 127) (lo' := [some (.ref _), some (.int _), some (.int _), some (.int _), _]) F dX10_goes_127 rfl rfl (Nat.le_of_ble_eq_true rfl) rfl ?_
    have e9 : n = l := by omega
    subst e9
    refine j_up 12 (fun k => ∀ μ3 : j_M, (Fm PS (goF (uE μ.1 n set) (goL (μ.1 1) (tE μ.1 n set) μ n) k) μ3 ∧ RP μ.1 OS μ3 ∧ μ3.1 0 9 = μ.1 0 9) → V X _ 128 [some (.ref 0), some (.int set), some (.int (nI (suN (fun l => gcN (tE μ.1 n set l) 12) n))), some (.int (nI k)), none] [] μ3) (fun k hk ih μ3 hK => ?_) 0 (Nat.zero_le _) μ1 (⟨by rw [goF_0]; exact hI.1, hI.2.1, (hI.1.1 0 9 (by unfold PS; omega)).trans (goL_c (by decide) (by decide) _)⟩)
    refine v_iload_n (pc := 128) (i := 3) F dX10_goes_128 rfl rfl ?_
    refine v_bipush (pc := 129) (v := nI 12) F dX10_goes_129 (by decide) ?_
    refine v_icmp_ge (pc := 131) (tgt := 152) F dX10_goes_131 (by decide) (fun h131_3 => ?_) (fun h131_3 => ?_)
    · rw [nI_leI (by omega) (by omega)] at h131_3
      refine v_aload_n (pc := 152) (i := 0) F dX10_goes_152 rfl rfl ?_
      refine v_dup (pc := 153) F dX10_goes_153 rfl ?_
      refine v_getI (pc := 154) F fX10_304 dX10_goes_154 rfl lm0 ?_
      refine v_iconst (pc := 157) (v := nI 1) F dX10_goes_157 (by decide) ?_
      refine v_iadd (pc := 158) F dX10_goes_158 ?_
      refine v_put (pc := 159) F fX10_304 dX10_goes_159 rfl rfl rfl lm0 ?_
      refine v_iload_n (pc := 162) (i := 2) F dX10_goes_162 rfl rfl ?_
      refine v_ireturn (pc := 163) F dX10_goes_163 (rfl) ?_
      have e : k = 12 := by omega
      subst e
      unfold s_goes
      rw [hnn]
      refine ⟨rfl, ?_⟩
      rw [hK.2.2]
      exact hK.1.both
    · rw [nI_leI (by omega) (by omega)] at h131_3
      refine v_aload_n (pc := 134) (i := 0) F dX10_goes_134 rfl rfl ?_
      refine v_getR (pc := 135) (o := 1) F fX10_9 dX10_goes_135 rfl lm0 ?_
      refine v_topR (y := 1) rfl ?_
      refine v_iload_n (pc := 138) (i := 3) F dX10_goes_138 rfl rfl ?_
      refine v_aload_n (pc := 139) (i := 0) F dX10_goes_139 rfl rfl ?_
      refine v_getR (pc := 140) (o := 16) F fX10_56 dX10_goes_140 rfl lm0 ?_
      refine v_topR (y := 16) rfl ?_
      refine v_iload_n (pc := 143) (i := 3) F dX10_goes_143 rfl rfl ?_
      refine v_ialdN (pc := 144) (k0 := k) F dX10_goes_144 (lm10_24 lm0) (rfl) (by omega) (by decide) ?_
      refine v_iastN (pc := 145) (k0 := k) F dX10_goes_145 (lm10_0 lm0) (rfl) (by omega) (by decide) ?_
      refine v_iinc (pc := 146) (i := 3) (v := nI (k + 1)) (lo' := [some (.ref _), some (.int _), some (.int _), some (.int _), _]) F dX10_goes_146 rfl (j_inc _) rfl rfl ?_
      refine v_goto (pc := 149) (tgt := 128) F dX10_goes_149 (by decide) ?_
      refine ih (by omega) _ ⟨?_, (hK.2.1).wr (by decide), by rw [j_pI_ne (by decide)]; exact hK.2.2⟩
      rw [goF_s, hK.2.1.1 k (by omega), hOS]
      exact hK.1.both
  · rw [nI_leI (by omega) (by omega)] at h14_2
    refine v_iconst (pc := 17) (v := nI 0) F dX10_goes_17 (by decide) ?_
    refine v_istore (pc := 18) (lo' := [some (.ref _), some (.int _), some (.int _), some (.int _), some (.int _)]) F dX10_goes_18 rfl (Nat.le_of_ble_eq_true rfl) rfl ?_
    refine j_up 12 (fun p => ∀ μ2 : j_M, (Fm PS (gnP (μ.1 1) (tE μ.1 n set l) l (goL (μ.1 1) (tE μ.1 n set) μ l) p) μ2 ∧ RP μ.1 OS μ2 ∧ μ2.1 0 1 = nI n ∧ μ2.1 1 = μ.1 1) → V X _ 20 [some (.ref 0), some (.int set), some (.int (nI (suN (fun l => gcN (tE μ.1 n set l) 12) l + gcN (tE μ.1 n set l) p))), some (.int (nI l)), some (.int (nI p))] [] μ2) (fun p hp ihp μ2 hJ => ?_) 0 (Nat.zero_le _) μ1 (hI)
    refine v_iload (pc := 20) (i := 4) F dX10_goes_20 rfl ?_
    refine v_bipush (pc := 22) (v := nI 12) F dX10_goes_22 (by decide) ?_
    refine v_icmp_ge (pc := 24) (tgt := 94) F dX10_goes_24 (by decide) (fun h24_4 => ?_) (fun h24_4 => ?_)
    · rw [nI_leI (by omega) (by omega)] at h24_4
      have e12 : 12 = p := by omega
      subst e12
      refine v_aload_n (pc := 94) (i := 0) F dX10_goes_94 rfl rfl ?_
      refine v_getR (pc := 95) (o := 18) F fX10_62 dX10_goes_95 rfl lm0 ?_
      refine v_topR (y := 18) rfl ?_
      refine v_iload_n (pc := 98) (i := 3) F dX10_goes_98 rfl rfl ?_
      refine v_ialdN (pc := 99) (k0 := l) F dX10_goes_99 (lm10_27 lm0) (rfl) (by omega) (by decide) ?_
      refine v_if_eq (pc := 100) (tgt := 120) F dX10_goes_100 (by decide) (fun hem => ?_) (fun hem => ?_)
      · rw [took_0 hJ.2.1 (by omega), hOS] at hem
        refine v_iinc (pc := 120) (i := 3) (v := nI (l + 1)) (lo' := [some (.ref _), some (.int _), some (.int _), some (.int _), some (.int _)]) F dX10_goes_120 rfl (j_inc _) rfl rfl ?_
        refine v_goto (pc := 123) (tgt := 9) F dX10_goes_123 (by decide) ?_
        refine v_drop (i := 4) (lo' := [some (.ref _), some (.int _), some (.int _), some (.int _), _]) rfl ?_
        refine ihl (by omega) μ2 ⟨?_, hJ.2⟩
        rw [goL_t (Tf := tE μ.1 n set) (by first | exact hem | exact Classical.not_not.mp hem)]
        exact hJ.1
      · rw [took_0 hJ.2.1 (by omega), hOS] at hem
        obtain ⟨ph, hph1, hph2⟩ := hd_get (T := tE μ.1 n set l) hem
        have hph12 := goT_lt hph2
        have hph : μ.1 1 (((tE μ.1 n set) l).head?.getD 0) = μ2.1 1 ph := by rw [hJ.2.2.2]; exact congrArg (μ.1 1) (by rw [hph1]; rfl)
        refine v_aload_n (pc := 103) (i := 0) F dX10_goes_103 rfl rfl ?_
        refine v_getR (pc := 104) (o := 7) F fX10_28 dX10_goes_104 rfl lm0 ?_
        refine v_topR (y := 7) rfl ?_
        refine v_iload_n (pc := 107) (i := 3) F dX10_goes_107 rfl rfl ?_
        refine v_aload_n (pc := 108) (i := 0) F dX10_goes_108 rfl rfl ?_
        refine v_getR (pc := 109) (o := 1) F fX10_9 dX10_goes_109 rfl lm0 ?_
        refine v_topR (y := 1) rfl ?_
        refine v_aload_n (pc := 112) (i := 0) F dX10_goes_112 rfl rfl ?_
        refine v_getR (pc := 113) (o := 19) F fX10_65 dX10_goes_113 rfl lm0 ?_
        refine v_topR (y := 19) rfl ?_
        refine v_iload_n (pc := 116) (i := 3) F dX10_goes_116 rfl rfl ?_
        refine v_ialdN (pc := 117) (k0 := l) F dX10_goes_117 (lm10_28 lm0) (rfl) (by omega) (by decide) ?_
        refine v_topE (y := nI ph) ((hJ.2.1.2 l (by omega)).2.trans (by rw [hOS]; exact congrArg o2i hph1)) ?_
        refine v_ialdN (pc := 118) (k0 := ph) F dX10_goes_118 (lm10_0 lm0) (rfl) (by omega) (by decide) ?_
        refine v_iastN (pc := 119) (k0 := l) F dX10_goes_119 (lm10_7 lm0) (rfl) (by omega) (by decide) ?_
        refine v_iinc (pc := 120) (i := 3) (v := nI (l + 1)) (lo' := [some (.ref _), some (.int _), some (.int _), some (.int _), some (.int _)]) F dX10_goes_120 rfl (j_inc _) rfl rfl ?_
        refine v_goto (pc := 123) (tgt := 9) F dX10_goes_123 (by decide) ?_
        refine v_drop (i := 4) (lo' := [some (.ref _), some (.int _), some (.int _), some (.int _), _]) rfl ?_
        refine ihl (by omega) (j_pI μ2 7 l ((μ2.1 1 ph))) ⟨?_, (hJ.2.1).wr (by decide), by rw [j_pI_ne (by decide)]; exact hJ.2.2.1, by rw [j_pI_ne (by decide)]; exact hJ.2.2.2⟩
        rw [goL_f (Tf := tE μ.1 n set) hem, hph]
        exact hJ.1.both
    · rw [nI_leI (by omega) (by omega)] at h24_4
      refine v_aload_n (pc := 27) (i := 0) F dX10_goes_27 rfl rfl ?_
      refine v_getR (pc := 28) (o := 18) F fX10_62 dX10_goes_28 rfl lm0 ?_
      refine v_topR (y := 18) rfl ?_
      refine v_iload_n (pc := 31) (i := 3) F dX10_goes_31 rfl rfl ?_
      refine v_ialdN (pc := 32) (k0 := l) F dX10_goes_32 (lm10_27 lm0) (rfl) (by omega) (by decide) ?_
      refine v_iload (pc := 33) (i := 4) F dX10_goes_33 rfl ?_
      refine v_callSI (pc := 35) (As := [_, _]) (rest := []) F mX10_in kX10_194 sm_X10_in dX10_goes_35 (c_X10_inN _ p (by omega) _) (by decide) rfl rfl (Nat.le_of_ble_eq_true rfl) (fun x6 μ6 hp6 => ?_)
      rw [hp6.1, hp6.2]
      refine v_if_ne (pc := 38) (tgt := 44) F dX10_goes_38 (by decide) (fun hm => ?_) (fun hm => ?_)
      · rw [b2i_0, (hJ.2.1.2 l (by omega)).1, tb_bl (fun q hq9 => by have := goT_lt hq9; omega), decide_eq_true_eq, hOS] at hm
        rw [Classical.not_not] at hm
        obtain ⟨th, hth8, hth⟩ := th_s (ht1 p (by omega)) (tE_ne ho hm)
        refine v_iinc (pc := 44) (i := 2) (v := nI (suN (fun l => gcN (tE μ.1 n set l) 12) l + gcN (tE μ.1 n set l) p + 1)) (lo' := [some (.ref _), some (.int _), some (.int _), some (.int _), some (.int _)]) F dX10_goes_44 rfl (j_inc _) rfl rfl ?_
        refine v_aload_n (pc := 47) (i := 0) F dX10_goes_47 rfl rfl ?_
        refine v_getR (pc := 48) (o := 8) F fX10_31 dX10_goes_48 rfl lm0 ?_
        refine v_topR (y := 8) rfl ?_
        refine v_bipush (pc := 51) (v := nI 8) F dX10_goes_51 (by decide) ?_
        refine v_iload_n (pc := 53) (i := 3) F dX10_goes_53 rfl rfl ?_
        refine v_imul (pc := 54) F dX10_goes_54 ?_
        refine v_topE (pk_mul _ _) ?_
        refine v_aload_n (pc := 55) (i := 0) F dX10_goes_55 rfl rfl ?_
        refine v_getR (pc := 56) (o := 1) F fX10_9 dX10_goes_56 rfl lm0 ?_
        refine v_topR (y := 1) rfl ?_
        refine v_iload (pc := 59) (i := 4) F dX10_goes_59 rfl ?_
        refine v_ialdN (pc := 61) (k0 := p) F dX10_goes_61 (lm10_0 lm0) (rfl) (by omega) (by decide) ?_
        refine v_topE (y := nI th) ((congrFun hJ.2.2.2 p).trans hth) ?_
        refine v_iadd (pc := 62) F dX10_goes_62 ?_
        refine v_topE (nI_add _ _) ?_
        refine v_bipush (pc := 63) (v := nI 99) F dX10_goes_63 (by decide) ?_
        refine v_aload_n (pc := 65) (i := 0) F dX10_goes_65 rfl rfl ?_
        refine v_getR (pc := 66) (o := 8) F fX10_31 dX10_goes_66 rfl lm0 ?_
        refine v_topR (y := 8) rfl ?_
        refine v_bipush (pc := 69) (v := nI 8) F dX10_goes_69 (by decide) ?_
        refine v_iload_n (pc := 71) (i := 3) F dX10_goes_71 rfl rfl ?_
        refine v_imul (pc := 72) F dX10_goes_72 ?_
        refine v_topE (pk_mul _ _) ?_
        refine v_aload_n (pc := 73) (i := 0) F dX10_goes_73 rfl rfl ?_
        refine v_getR (pc := 74) (o := 1) F fX10_9 dX10_goes_74 rfl lm0 ?_
        refine v_topR (y := 1) rfl ?_
        refine v_iload (pc := 77) (i := 4) F dX10_goes_77 rfl ?_
        refine v_ialdN (pc := 79) (k0 := p) F dX10_goes_79 (lm10_0 lm0) (rfl) (by omega) (by decide) ?_
        refine v_topE (y := nI th) ((congrFun hJ.2.2.2 p).trans hth) ?_
        refine v_iadd (pc := 80) F dX10_goes_80 ?_
        refine v_topE (nI_add _ _) ?_
        refine v_ialdN (pc := 81) (k0 := 8 * l + th) F dX10_goes_81 (lm10_8 lm0) (rfl) (by omega) (by decide) ?_
        refine v_iconst (pc := 82) (v := nI 1) F dX10_goes_82 (by decide) ?_
        refine v_iadd (pc := 83) F dX10_goes_83 ?_
        refine v_mmin (pc := 84) F dX10_goes_84 mlX10_299 (Nat.le_of_ble_eq_true rfl) ?_
        refine v_iastN (pc := 87) (k0 := 8 * l + th) F dX10_goes_87 (lm10_8 lm0) (rfl) (by omega) (by decide) ?_
        refine v_iinc (pc := 88) (i := 4) (v := nI (p + 1)) (lo' := [some (.ref _), some (.int _), some (.int _), some (.int _), some (.int _)]) F dX10_goes_88 rfl (j_inc _) rfl rfl ?_
        refine v_goto (pc := 91) (tgt := 20) F dX10_goes_91 (by decide) ?_
        have hF := gn1_F (l := l) (v := μ.1 1 p) hJ.1
        have ee : gn1 μ2 l (μ.1 1 p) = (j_pI μ2 8 (8 * l + th) ((jmin (nI 99) (((μ2.1 8 (8 * l + th)) + nI 1))))) := by
          unfold gn1
          rw [hth, show ix (nI th) = th from ix_nI (by omega)]
        rw [← ee]
        have q := ihp (by omega) (gn1 μ2 l (μ.1 1 p)) ⟨by rw [gnP_t (T := tE μ.1 n set l) hm]; exact hF, (hJ.2.1).wr (by decide), (gn1_o (by decide)).trans hJ.2.2.1, (funext fun j => gn1_o (by decide)).trans hJ.2.2.2⟩
        rw [gcN_t (T := tE μ.1 n set l) hm, ← Nat.add_assoc] at q
        exact q
      · rw [b2i_0, (hJ.2.1.2 l (by omega)).1, tb_bl (fun q hq9 => by have := goT_lt hq9; omega), decide_eq_true_eq, hOS] at hm
        refine v_goto (pc := 41) (tgt := 88) F dX10_goes_41 (by decide) ?_
        refine v_iinc (pc := 88) (i := 4) (v := nI (p + 1)) (lo' := [some (.ref _), some (.int _), some (.int _), some (.int _), some (.int _)]) F dX10_goes_88 rfl (j_inc _) rfl rfl ?_
        refine v_goto (pc := 91) (tgt := 20) F dX10_goes_91 (by decide) ?_
        have q := ihp (by omega) _ ⟨by rw [gnP_f (T := tE μ.1 n set l) hm]; exact hJ.1, hJ.2⟩
        rw [gcN_f (T := tE μ.1 n set l) hm] at q
        exact q
