/-! the class: in truth -/
theorem goT_ex {w : Nat → Nat → Int32} {O : List Nat} {l : Nat} (ha : ¬ w 3 l = -1) : ∀ {u : Nat → Int32}, UU w u → ∃ u', UU w u' ∧ goT w O u l = tk (w 2 l) (w 3 l) (w 5 l) u' := by
  induction O with
  | nil =>
    intro u _
    refine ⟨fun _ => -1, fun _ _ => Or.inr rfl, ?_⟩
    show [] = _
    symm
    refine List.eq_nil_iff_forall_not_mem.mpr (fun p hp => ?_)
    exact tk_ne ha hp rfl
  | cons a O ih =>
    intro u hu
    by_cases e : l = a
    · subst e
      exact ⟨u, hu, if_pos rfl⟩
    · obtain ⟨u', h1, h2⟩ := ih (u := rmL u (tk (w 2 a) (w 3 a) (w 5 a) u)) hu.rm
      exact ⟨u', h1, (if_neg e).trans h2⟩
theorem tE_ex {w : Nat → Nat → Int32} {n l : Nat} {set : Int32} (ha : ¬ w 3 l = -1) : ∃ u', UU w u' ∧ tE w n set l = tk (w 2 l) (w 3 l) (w 5 l) u' := goT_ex ha UU.self
theorem cK_add {P Q R : Nat → Bool} {n : Nat} (h : ∀ i, i < n → P i = (Q i || R i)) (hd : ∀ i, i < n → ¬ (Q i = true ∧ R i = true)) : cK P n = cK Q n + cK R n := by
  induction n with
  | zero => rfl
  | succ n ih =>
    have e := ih (fun i hi => h i (by omega)) (fun i hi => hd i (by omega))
    have h1 := h n (by omega)
    have h2 := hd n (by omega)
    simp only [cK, h1]
    cases hq : Q n <;> cases hr : R n
    · simp [e]
    · simp [e]; omega
    · simp [e]; omega
    · exact absurd ⟨hq, hr⟩ h2
theorem suN_upd {f g : Nat → Nat} {n a : Nat} (ha : a < n) (h0 : g a = 0) (h : ∀ l, ¬ l = a → f l = g l) : suN f n = f a + suN g n := by
  induction n with
  | zero => omega
  | succ n ih =>
    show suN f n + f n = f a + (suN g n + g n)
    by_cases e : a = n
    · subst e
      have key : ∀ m, m ≤ a → suN f m = suN g m := by
        intro m
        induction m with
        | zero => intro _; rfl
        | succ m ih2 => intro hm; show suN f m + f m = suN g m + g m; rw [ih2 (by omega), h m (by omega)]
      rw [key a (Nat.le_refl _), h0]; omega
    · rw [ih (by omega), h n (fun z => e z.symm)]; omega
theorem suN_0 {f : Nat → Nat} {n : Nat} (h : ∀ l, f l = 0) : suN f n = 0 := by
  induction n with
  | zero => rfl
  | succ n ih => show suN f n + f n = 0; rw [ih, h]
def gone (w1 u : Nat → Int32) (p : Nat) : Bool := !(w1 p == -1) && (u p == -1)
/-- as many things are gone as were taken -/
theorem gone_cnt {w : Nat → Nat → Int32} {n : Nat} : ∀ (O : List Nat) (u : Nat → Int32), O.Nodup → (∀ l ∈ O, l < n) → (∀ l ∈ O, ¬ w 3 l = -1) → cK (gone u (goU w O u)) 12 = suN (fun l => gcN (goT w O u l) 12) n := by
  intro O
  induction O with
  | nil =>
    intro u _ _ _
    have h0 : suN (fun l => gcN (goT w [] u l) 12) n = 0 := suN_0 (fun l => cK_0 (P := fun p => decide (p ∈ goT w [] u l)) (fun p _ => by show decide (p ∈ []) = false; simp))
    rw [h0]
    refine cK_0 (fun p _ => ?_)
    show (!(u p == -1) && (u p == -1)) = false
    cases (u p == -1) <;> rfl
  | cons a O ih =>
    intro u hd hn ha
    have hd2 := List.nodup_cons.mp hd
    obtain ⟨T, hTe⟩ : ∃ T, T = tk (w 2 a) (w 3 a) (w 5 a) u := ⟨_, rfl⟩
    have e := ih (rmL u T) hd2.2 (fun l hl => hn l (List.mem_cons_of_mem _ hl)) (fun l hl => ha l (List.mem_cons_of_mem _ hl))
    have hT : ∀ p ∈ T, ¬ u p = -1 := fun p hp => tk_ne (ha a List.mem_cons_self) (by rw [hTe] at hp; exact hp)
    have hU : goU w (a :: O) u = goU w O (rmL u T) := by rw [hTe]; rfl
    have hG : ∀ l, goT w (a :: O) u l = if l = a then T else goT w O (rmL u T) l := fun l => by rw [hTe]; rfl
    have hgT : ∀ p ∈ T, goU w O (rmL u T) p = -1 := by
      have key : ∀ (O : List Nat) (v : Nat → Int32) (p : Nat), v p = -1 → goU w O v p = -1 := by
        intro O
        induction O with
        | nil => intro v p h; exact h
        | cons b O ih3 =>
          intro v p h
          refine ih3 _ p ?_
          unfold rmL
          split
          · rfl
          · exact h
      exact fun p hp => key O _ p (if_pos hp)
    rw [hU, suN_upd (a := a) (g := fun l => gcN (goT w O (rmL u T) l) 12) (hn a List.mem_cons_self) (by
      show gcN (goT w O (rmL u T) a) 12 = 0
      rw [goT_nil hd2.1]
      exact cK_0 (fun p _ => by show decide (p ∈ []) = false; simp)) (fun l hl => by
      show gcN (goT w (a :: O) u l) 12 = gcN (goT w O (rmL u T) l) 12
      rw [hG l, if_neg hl]), ← e]
    show _ = gcN (goT w (a :: O) u a) 12 + _
    rw [hG a, if_pos rfl]
    refine cK_add (fun i _ => ?_) (fun i _ => ?_)
    · unfold gone
      by_cases z : i ∈ T
      · have h1 : (u i == -1) = false := by simpa using hT i z
        rw [h1, hgT i z, decide_eq_true z]; simp
      · rw [show rmL u T i = u i from if_neg z, decide_eq_false z, Bool.false_or]
    · rintro ⟨z1, z2⟩
      unfold gone at z2
      rw [show rmL u T i = -1 from if_pos (of_decide_eq_true z1)] at z2
      simp at z2
theorem gone_tb {w1 u : Nat → Int32} : lfB w1 &&& (lfB u ^^^ (-1)) = bK (gone w1 u) 12 := tb_ext (fun i hi => by
  unfold lfB
  rw [tb_and, tb_xor, tb_m1 hi, tb_bK12, tb_bK12, tb_bK12]
  unfold gone
  cases decide (i < 12) <;> cases (w1 i == -1) <;> cases (u i == -1) <;> rfl)
theorem gone_all {w : Nat → Nat → Int32} {n : Nat} {set : Int32} (hW : WI w n) : jbc (bK (gone (w 1) (uE w n set)) 12) = nI (suN (fun l => gcN (tE w n set l) 12) n) := by
  rw [jbc_bK]
  congr 1
  exact gone_cnt (OO w n set) (w 1) ordO_nodup (fun l hl => (ordO_mem.mp hl).1) (fun l hl => hW.own l (ordO_mem.mp hl).1)
theorem j_pI_same {m : j_M} {c j : Nat} {v : Int32} (h : m.1 c j = v) : (j_pI m c j v).1 = m.1 := by
  funext a b
  by_cases e : a = c ∧ b = j
  · obtain ⟨rfl, rfl⟩ := e
    rw [j_pI_at, h]
  · rw [j_pI_off e]
/-- a looker is handed what he took, behind the first p places -/
def hoM (t : Nat → Int32) (T : List Nat) (l : Nat) (m : j_M) (p : Nat) : j_M := match T.head? with
  | none => gnP t T l m p
  | some p0 => if p0 < p then j_pI (gnP t T l m p) 7 l (t p0) else gnP t T l m p
theorem hoM_0 {t : Nat → Int32} {T : List Nat} {l : Nat} {m : j_M} : hoM t T l m 0 = m := by
  unfold hoM
  split
  · rfl
  · rw [if_neg (by omega)]; rfl
theorem hd_mem {T : List Nat} {p : Nat} (h : T.head? = some p) : p ∈ T := by
  cases T with
  | nil => cases h
  | cons a T => cases h; exact List.mem_cons_self
theorem hoM_n {t : Nat → Int32} {T : List Nat} {l p : Nat} {m : j_M} (h : p ∉ T) : hoM t T l m (p + 1) = hoM t T l m p := by
  unfold hoM
  rw [gnP_f h]
  rcases e : T.head? with _ | p0
  · rfl
  · have : ¬ p0 = p := fun z => h (by rw [← z]; exact hd_mem e)
    simp only []
    by_cases q : p0 < p
    · rw [if_pos q, if_pos (by omega)]
    · rw [if_neg q, if_neg (by omega)]
theorem pI_comm {m : j_M} {a b c d : Nat} {v x : Int32} (h : ¬ (a = c ∧ b = d)) : j_pI (j_pI m a b v) c d x = j_pI (j_pI m c d x) a b v := by
  refine Prod.ext ?_ rfl
  funext y z
  by_cases e1 : y = c ∧ z = d
  · obtain ⟨rfl, rfl⟩ := e1
    rw [j_pI_at, j_pI_off (by omega), j_pI_at]
  · rw [j_pI_off e1]
    by_cases e2 : y = a ∧ z = b
    · obtain ⟨rfl, rfl⟩ := e2
      rw [j_pI_at, j_pI_at]
    · rw [j_pI_off e2, j_pI_off e2, j_pI_off e1]
theorem gn1_7 {m : j_M} {l : Nat} {v x : Int32} : gn1 (j_pI m 7 l x) l v = j_pI (gn1 m l v) 7 l x := by
  unfold gn1
  rw [j_pI_off (by omega), pI_comm (by omega)]
theorem hoM_g {t : Nat → Int32} {T : List Nat} {l p : Nat} {m : j_M} (h : p ∈ T) (hp : ¬ T.head? = some p) : hoM t T l m (p + 1) = gn1 (hoM t T l m p) l (t p) := by
  unfold hoM
  rw [gnP_t h]
  rcases e : T.head? with _ | p0
  · rfl
  · have : ¬ p0 = p := fun z => hp (by rw [e, z])
    simp only []
    by_cases q : p0 < p
    · rw [if_pos q, if_pos (by omega), gn1_7]
    · rw [if_neg q, if_neg (by omega)]
theorem hoM_h {t : Nat → Int32} {T : List Nat} {l p : Nat} {m : j_M} (hp : T.head? = some p) : hoM t T l m (p + 1) = j_pI (gn1 (hoM t T l m p) l (t p)) 7 l (t p) := by
  unfold hoM
  rw [gnP_t (hd_mem hp), hp]
  simp only []
  rw [if_pos (by omega), if_neg (by omega)]
theorem hoM_c {t : Nat → Int32} {T : List Nat} {l p c j : Nat} {m : j_M} (h8 : ¬ c = 8) (h7 : ¬ c = 7) : (hoM t T l m p).1 c j = m.1 c j := by
  unfold hoM
  split
  · exact gnP_c h8 p
  · split
    · rw [j_pI_off (by omega)]; exact gnP_c h8 p
    · exact gnP_c h8 p
theorem hoM_12 {t : Nat → Int32} {Tf : Nat → List Nat} {l : Nat} {m : j_M} (hT : ∀ p ∈ Tf l, p < 12) : goL t Tf m (l + 1) = hoM t (Tf l) l (goL t Tf m l) 12 := by
  unfold hoM
  rcases e : (Tf l).head? with _ | p0
  · rw [goL_t (by rw [List.isEmpty_iff]; exact List.head?_eq_none_iff.mp e)]
  · have hm := hd_mem e
    rw [goL_f (fun z => by rw [List.isEmpty_iff.mp z] at hm; cases hm), e]
    simp only []
    rw [if_pos (hT p0 hm)]
    rfl

set_option maxRecDepth 100000 in
theorem c_X2_handOver (e : Nat) (he : j_ob ΛX e 2) (b : Nat) (hb : j_ob ΛX b 4) (n : Nat) (m : j_M) (t : Nat → Int32) (ht : m.1 1 = t) (μ : j_M) (hS : SQ μ b m.1 n) (hW : WI m.1 n) (hne : e + 2 ≤ b ∨ b + 21 ≤ e) (l : Nat) (hl : l < n) (T : List Nat) (hT : μ.1 (e + 1) l = bl T) (hTk : ∃ u, UU m.1 u ∧ T = tk (m.1 2 l) (m.1 3 l) (m.1 5 l) u) (hTs : ∀ p ∈ T, p < 12 ∧ ∃ s, s < 8 ∧ t p = nI s) : Ct yX2_handOver cX2_handOver 6 none 3 ΛX [.ref e, .ref b, .int (nI l)] μ (pV fun μ2 => SQ μ2 b (hoM t T l m 12).1 n ∧ Fm (PC b) μ μ2) := by
  refine Ct.go (lo := [some (.ref e), some (.ref b), some (.int (nI l)), none, none, none]) (by decide) (Nat.le_of_ble_eq_true rfl) rfl rfl (fun X F => ?_)
  have F : Fx X cX2_handOver RX2 3 none ΛX := F
  have hn8 := hS.2
  obtain ⟨u, hu, hTu⟩ := hTk
  refine v_aload_n (pc := 0) (i := 1) F dX2_handOver_0 rfl rfl ?_
  refine v_getR (pc := 1) (o := 3) F fX2_33 dX2_handOver_1 rfl hb ?_
  refine v_topR (y := b + 3) rfl ?_
  refine v_iload_n (pc := 4) (i := 2) F dX2_handOver_4 rfl rfl ?_
  refine v_aald14N (pc := 5) (k0 := l) (x := b + 5 + 2 * l) F dX2_handOver_5 (lx4_2 hb) (rfl) (by omega) (by decide) (by simp only [j_ro]; first | rfl | omega | (split <;> omega)) ?_
  have ho1 : j_ob ΛX (b + 5 + 2 * l) 3 := by
    have q := lxL (lx4_2 hb) (j := l) (by omega)
    simp only [j_ro] at q
    exact (by first | exact q | (rw [show b + 5 + 2 * l = _ from (by first | rfl | omega)]; exact q))
  refine v_astore_n (pc := 6) (lo' := [some (.ref _), some (.ref _), some (.int _), some (.ref _), _, _]) F dX2_handOver_6 rfl rfl (Nat.le_of_ble_eq_true rfl) rfl ?_
  refine v_aload_n (pc := 7) (i := 1) F dX2_handOver_7 rfl rfl ?_
  refine v_aload_n (pc := 8) (i := 3) F dX2_handOver_8 rfl rfl ?_
  refine v_aload_n (pc := 9) (i := 0) F dX2_handOver_9 rfl rfl ?_
  refine v_getR (pc := 10) (o := 1) F fX2_9 dX2_handOver_10 rfl he ?_
  refine v_topR (y := e + 1) rfl ?_
  refine v_iload_n (pc := 13) (i := 2) F dX2_handOver_13 rfl rfl ?_
  refine v_ialdN (pc := 14) (k0 := l) F dX2_handOver_14 (lx2_0 he) (rfl) (by omega) (by decide) ?_
  refine v_topE (y := (bl T)) (hT) ?_
  refine v_callVI (pc := 15) (As := [_, _]) (rest := []) (c := 4) F mX4_firstTaken kX2_73 im_X4_firstTaken se_X4_firstTaken dX2_handOver_15 rfl rfl (by decide) (c_X4_firstTaken b hb n m.1 _ hS l ho1 hW hl u hu T hTu) (by decide) rfl rfl (Nat.le_of_ble_eq_true rfl) hb (fun x2 μ2 hp2 => ?_)
  rw [hp2.1, hp2.2]
  rcases hhd : T.head? with _ | p0
  · skip
    refine v_topE (y := -1) rfl ?_
    refine v_istore (pc := 18) (lo' := [some (.ref _), some (.ref _), some (.int _), some (.ref _), some (.int _), _]) F dX2_handOver_18 rfl (Nat.le_of_ble_eq_true rfl) rfl ?_
    refine v_iconst (pc := 20) (v := nI 0) F dX2_handOver_20 (by decide) ?_
    refine v_istore (pc := 21) (lo' := [some (.ref _), some (.ref _), some (.int _), some (.ref _), some (.int _), some (.int _)]) F dX2_handOver_21 rfl (Nat.le_of_ble_eq_true rfl) rfl ?_
    refine j_up 12 (fun k => ∀ μ' : j_M, (SQ μ' b (hoM t T l m k).1 n ∧ Fm (PC b) μ μ') → V X _ 23 [some (.ref e), some (.ref b), some (.int (nI l)), some (.ref (b + 5 + 2 * l)), some (.int ((-1))), some (.int (nI k))] [] μ') (fun k hk ih μ' hI => ?_) 0 (Nat.zero_le _) μ (⟨by rw [hoM_0]; exact hS, Fm.rf⟩)
    refine v_iload (pc := 23) (i := 5) F dX2_handOver_23 rfl ?_
    refine v_bipush (pc := 25) (v := nI 12) F dX2_handOver_25 (by decide) ?_
    refine v_icmp_ge (pc := 27) (tgt := 79) F dX2_handOver_27 (by decide) (fun h27_3 => ?_) (fun h27_3 => ?_)
    · rw [nI_leI (by omega) (by omega)] at h27_3
      refine v_return (pc := 79) F dX2_handOver_79 ?_
      have e1 : k = 12 := by omega
      subst e1
      exact hI
    · rw [nI_leI (by omega) (by omega)] at h27_3
      refine v_aload_n (pc := 30) (i := 0) F dX2_handOver_30 rfl rfl ?_
      refine v_getR (pc := 31) (o := 1) F fX2_9 dX2_handOver_31 rfl he ?_
      refine v_topR (y := e + 1) rfl ?_
      refine v_iload_n (pc := 34) (i := 2) F dX2_handOver_34 rfl rfl ?_
      refine v_ialdN (pc := 35) (k0 := l) F dX2_handOver_35 (lx2_0 he) (rfl) (by omega) (by decide) ?_
      refine v_topE (y := (bl T)) ((hI.2.1 _ _ (by omega)).trans hT) ?_
      refine v_iload (pc := 36) (i := 5) F dX2_handOver_36 rfl ?_
      refine v_ishr (pc := 38) F dX2_handOver_38 ?_
      refine v_iconst (pc := 39) (v := nI 1) F dX2_handOver_39 (by decide) ?_
      refine v_iand (pc := 40) F dX2_handOver_40 ?_
      refine v_if_eq (pc := 41) (tgt := 55) F dX2_handOver_41 (by decide) (fun hin => ?_) (fun hin => ?_)
      · rw [tb_if (by omega)] at hin
        have hmem : k ∉ T := fun z => hin (by rw [tb_bl (fun p hp => by have := (hTs p hp).1; omega)]; exact decide_eq_true z)
        refine v_iload (pc := 55) (i := 5) F dX2_handOver_55 rfl ?_
        refine v_iload (pc := 57) (i := 4) F dX2_handOver_57 rfl ?_
        refine v_icmp_ne (pc := 59) (tgt := 73) F dX2_handOver_59 (by decide) (fun h59_5 => ?_) (fun h59_5 => ?_)
        · rw [j_nm1 (by omega)] at h59_5
          refine v_iinc (pc := 73) (i := 5) (v := nI (k + 1)) (lo' := [some (.ref _), some (.ref _), some (.int _), some (.ref _), some (.int _), some (.int _)]) F dX2_handOver_73 rfl (j_inc _) rfl rfl ?_
          refine v_goto (pc := 76) (tgt := 23) F dX2_handOver_76 (by decide) ?_
          refine ih (by omega) _ ⟨?_, hI.2⟩
          rw [hoM_n hmem]
          exact hI.1
        · rw [j_nm1 (by omega)] at h59_5
          exact h59_5.elim
      · rw [tb_if (by omega)] at hin
        rw [Classical.not_not] at hin
        have hmem : k ∈ T := by
          have q := hin
          rw [tb_bl (fun p hp => by have := (hTs p hp).1; omega)] at q
          exact of_decide_eq_true q
        obtain ⟨-, s0, hs0, hs0e⟩ := hTs k hmem
        have hnh : ¬ T.head? = some k := by rw [hhd]; simp
        refine v_aload_n (pc := 44) (i := 3) F dX2_handOver_44 rfl rfl ?_
        refine v_aload_n (pc := 45) (i := 1) F dX2_handOver_45 rfl rfl ?_
        refine v_getR (pc := 46) (o := 1) F fX2_76 dX2_handOver_46 rfl hb ?_
        refine v_topR (y := b + 1) rfl ?_
        refine v_iload (pc := 49) (i := 5) F dX2_handOver_49 rfl ?_
        refine v_ialdN (pc := 51) (k0 := k) F dX2_handOver_51 (lx4_0 hb) (rfl) (by omega) (by decide) ?_
        refine v_topE (y := nI s0) ((hI.1.1.srt k (by omega)).trans ((hoM_c (by decide) (by decide)).trans ((congrFun ht k).trans hs0e))) ?_
        refine v_callVV (pc := 52) (As := [_]) (rest := []) (c := 3) F mX3_gain kX2_79 im_X3_gain se_X3_gain dX2_handOver_52 rfl rfl (by decide) (c_X3_gain _ ho1 s0 (by omega) _) (by decide) rfl rfl (Nat.le_of_ble_eq_true rfl) ho1 (fun μ6 hp6 => ?_)
        rw [hp6]
        refine v_iload (pc := 55) (i := 5) F dX2_handOver_55 rfl ?_
        refine v_iload (pc := 57) (i := 4) F dX2_handOver_57 rfl ?_
        refine v_icmp_ne (pc := 59) (tgt := 73) F dX2_handOver_59 (by decide) (fun h59_7 => ?_) (fun h59_7 => ?_)
        · rw [j_nm1 (by omega)] at h59_7
          refine v_iinc (pc := 73) (i := 5) (v := nI (k + 1)) (lo' := [some (.ref _), some (.ref _), some (.int _), some (.ref _), some (.int _), some (.int _)]) F dX2_handOver_73 rfl (j_inc _) rfl rfl ?_
          refine v_goto (pc := 76) (tgt := 23) F dX2_handOver_76 (by decide) ?_
          have r1 : μ'.1 (b + 5 + 2 * l + 1) s0 = (hoM t T l m k).1 8 (8 * l + s0) := (hI.1.1.lk l hl).ha s0 hs0
          rw [r1]
          have q1 := hI.1.1.has (l := l) (s := s0) (v := jmin (nI 99) ((hoM t T l m k).1 8 (8 * l + s0) + nI 1)) hn8 hl hs0
          refine ih (by omega) _ ⟨⟨?_, hn8⟩, hI.2.pI (by omega)⟩
          rw [hoM_g hmem hnh]
          unfold gn1
          rw [hs0e, ix_nI (by omega)]
          exact q1
        · rw [j_nm1 (by omega)] at h59_7
          exact h59_7.elim
  · skip
    have hp0m := hd_mem hhd
    have hp012 := (hTs p0 hp0m).1
    refine v_topE (y := nI p0) rfl ?_
    refine v_istore (pc := 18) (lo' := [some (.ref _), some (.ref _), some (.int _), some (.ref _), some (.int _), _]) F dX2_handOver_18 rfl (Nat.le_of_ble_eq_true rfl) rfl ?_
    refine v_iconst (pc := 20) (v := nI 0) F dX2_handOver_20 (by decide) ?_
    refine v_istore (pc := 21) (lo' := [some (.ref _), some (.ref _), some (.int _), some (.ref _), some (.int _), some (.int _)]) F dX2_handOver_21 rfl (Nat.le_of_ble_eq_true rfl) rfl ?_
    refine j_up 12 (fun k => ∀ μ' : j_M, (SQ μ' b (hoM t T l m k).1 n ∧ Fm (PC b) μ μ') → V X _ 23 [some (.ref e), some (.ref b), some (.int (nI l)), some (.ref (b + 5 + 2 * l)), some (.int (nI p0)), some (.int (nI k))] [] μ') (fun k hk ih μ' hI => ?_) 0 (Nat.zero_le _) μ (⟨by rw [hoM_0]; exact hS, Fm.rf⟩)
    refine v_iload (pc := 23) (i := 5) F dX2_handOver_23 rfl ?_
    refine v_bipush (pc := 25) (v := nI 12) F dX2_handOver_25 (by decide) ?_
    refine v_icmp_ge (pc := 27) (tgt := 79) F dX2_handOver_27 (by decide) (fun h27_8 => ?_) (fun h27_8 => ?_)
    · rw [nI_leI (by omega) (by omega)] at h27_8
      refine v_return (pc := 79) F dX2_handOver_79 ?_
      have e1 : k = 12 := by omega
      subst e1
      exact hI
    · rw [nI_leI (by omega) (by omega)] at h27_8
      refine v_aload_n (pc := 30) (i := 0) F dX2_handOver_30 rfl rfl ?_
      refine v_getR (pc := 31) (o := 1) F fX2_9 dX2_handOver_31 rfl he ?_
      refine v_topR (y := e + 1) rfl ?_
      refine v_iload_n (pc := 34) (i := 2) F dX2_handOver_34 rfl rfl ?_
      refine v_ialdN (pc := 35) (k0 := l) F dX2_handOver_35 (lx2_0 he) (rfl) (by omega) (by decide) ?_
      refine v_topE (y := (bl T)) ((hI.2.1 _ _ (by omega)).trans hT) ?_
      refine v_iload (pc := 36) (i := 5) F dX2_handOver_36 rfl ?_
      refine v_ishr (pc := 38) F dX2_handOver_38 ?_
      refine v_iconst (pc := 39) (v := nI 1) F dX2_handOver_39 (by decide) ?_
      refine v_iand (pc := 40) F dX2_handOver_40 ?_
      refine v_if_eq (pc := 41) (tgt := 55) F dX2_handOver_41 (by decide) (fun hin => ?_) (fun hin => ?_)
      · rw [tb_if (by omega)] at hin
        have hmem : k ∉ T := fun z => hin (by rw [tb_bl (fun p hp => by have := (hTs p hp).1; omega)]; exact decide_eq_true z)
        refine v_iload (pc := 55) (i := 5) F dX2_handOver_55 rfl ?_
        refine v_iload (pc := 57) (i := 4) F dX2_handOver_57 rfl ?_
        refine v_icmp_ne (pc := 59) (tgt := 73) F dX2_handOver_59 (by decide) (fun hfk => ?_) (fun hfk => ?_)
        · rw [nI_eq (by omega) (by omega)] at hfk
          refine v_iinc (pc := 73) (i := 5) (v := nI (k + 1)) (lo' := [some (.ref _), some (.ref _), some (.int _), some (.ref _), some (.int _), some (.int _)]) F dX2_handOver_73 rfl (j_inc _) rfl rfl ?_
          refine v_goto (pc := 76) (tgt := 23) F dX2_handOver_76 (by decide) ?_
          refine ih (by omega) _ ⟨?_, hI.2⟩
          rw [hoM_n hmem]
          exact hI.1
        · rw [nI_eq (by omega) (by omega)] at hfk
          exact absurd (by rw [hfk]; exact hd_mem hhd) hmem
      · rw [tb_if (by omega)] at hin
        rw [Classical.not_not] at hin
        have hmem : k ∈ T := by
          have q := hin
          rw [tb_bl (fun p hp => by have := (hTs p hp).1; omega)] at q
          exact of_decide_eq_true q
        obtain ⟨-, s0, hs0, hs0e⟩ := hTs k hmem
        refine v_aload_n (pc := 44) (i := 3) F dX2_handOver_44 rfl rfl ?_
        refine v_aload_n (pc := 45) (i := 1) F dX2_handOver_45 rfl rfl ?_
        refine v_getR (pc := 46) (o := 1) F fX2_76 dX2_handOver_46 rfl hb ?_
        refine v_topR (y := b + 1) rfl ?_
        refine v_iload (pc := 49) (i := 5) F dX2_handOver_49 rfl ?_
        refine v_ialdN (pc := 51) (k0 := k) F dX2_handOver_51 (lx4_0 hb) (rfl) (by omega) (by decide) ?_
        refine v_topE (y := nI s0) ((hI.1.1.srt k (by omega)).trans ((hoM_c (by decide) (by decide)).trans ((congrFun ht k).trans hs0e))) ?_
        refine v_callVV (pc := 52) (As := [_]) (rest := []) (c := 3) F mX3_gain kX2_79 im_X3_gain se_X3_gain dX2_handOver_52 rfl rfl (by decide) (c_X3_gain _ ho1 s0 (by omega) _) (by decide) rfl rfl (Nat.le_of_ble_eq_true rfl) ho1 (fun μ11 hp11 => ?_)
        rw [hp11]
        refine v_iload (pc := 55) (i := 5) F dX2_handOver_55 rfl ?_
        refine v_iload (pc := 57) (i := 4) F dX2_handOver_57 rfl ?_
        refine v_icmp_ne (pc := 59) (tgt := 73) F dX2_handOver_59 (by decide) (fun hfk => ?_) (fun hfk => ?_)
        · rw [nI_eq (by omega) (by omega)] at hfk
          have hnh : ¬ T.head? = some k := fun z => hfk (by rw [hhd] at z; cases z; rfl)
          refine v_iinc (pc := 73) (i := 5) (v := nI (k + 1)) (lo' := [some (.ref _), some (.ref _), some (.int _), some (.ref _), some (.int _), some (.int _)]) F dX2_handOver_73 rfl (j_inc _) rfl rfl ?_
          refine v_goto (pc := 76) (tgt := 23) F dX2_handOver_76 (by decide) ?_
          have r1 : μ'.1 (b + 5 + 2 * l + 1) s0 = (hoM t T l m k).1 8 (8 * l + s0) := (hI.1.1.lk l hl).ha s0 hs0
          rw [r1]
          have q1 := hI.1.1.has (l := l) (s := s0) (v := jmin (nI 99) ((hoM t T l m k).1 8 (8 * l + s0) + nI 1)) hn8 hl hs0
          refine ih (by omega) _ ⟨⟨?_, hn8⟩, hI.2.pI (by omega)⟩
          rw [hoM_g hmem hnh]
          unfold gn1
          rw [hs0e, ix_nI (by omega)]
          exact q1
        · rw [nI_eq (by omega) (by omega)] at hfk
          have hfk := (hfk).symm
          refine v_aload_n (pc := 62) (i := 3) F dX2_handOver_62 rfl rfl ?_
          refine v_aload_n (pc := 63) (i := 1) F dX2_handOver_63 rfl rfl ?_
          refine v_getR (pc := 64) (o := 1) F fX2_76 dX2_handOver_64 rfl hb ?_
          refine v_topR (y := b + 1) rfl ?_
          refine v_iload (pc := 67) (i := 5) F dX2_handOver_67 rfl ?_
          refine v_ialdN (pc := 69) (k0 := k) F dX2_handOver_69 (lx4_0 hb) (rfl) (by omega) (by decide) ?_
          refine v_topE (y := nI s0) ((j_pI_off (by omega)).trans ((hI.1.1.srt k (by omega)).trans ((hoM_c (by decide) (by decide)).trans ((congrFun ht k).trans hs0e)))) ?_
          refine v_put (pc := 70) F fX2_83 dX2_handOver_70 rfl rfl rfl ho1 ?_
          refine v_iinc (pc := 73) (i := 5) (v := nI (k + 1)) (lo' := [some (.ref _), some (.ref _), some (.int _), some (.ref _), some (.int _), some (.int _)]) F dX2_handOver_73 rfl (j_inc _) rfl rfl ?_
          refine v_goto (pc := 76) (tgt := 23) F dX2_handOver_76 (by decide) ?_
          have r1 : μ'.1 (b + 5 + 2 * l + 1) s0 = (hoM t T l m k).1 8 (8 * l + s0) := (hI.1.1.lk l hl).ha s0 hs0
          rw [r1]
          have q1 := hI.1.1.has (l := l) (s := s0) (v := jmin (nI 99) ((hoM t T l m k).1 8 (8 * l + s0) + nI 1)) hn8 hl hs0
          have q2 := q1.pk (l := l) (j := 6) (v := nI s0) hn8 hl (by omega) (by omega) (by omega)
          refine ih (by omega) _ ⟨⟨?_, hn8⟩, (hI.2.pI (by omega)).pI (by omega)⟩
          rw [hoM_h (by rw [hhd, hfk])]
          unfold gn1
          rw [hs0e, ix_nI (by omega)]
          exact q2
