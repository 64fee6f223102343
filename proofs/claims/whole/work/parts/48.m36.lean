/-! the order by age, of all and of some -/
def Srt (age : Nat → Int32) (O : List Nat) : Prop := O.Pairwise (fun x y => ¬ age y < age x)
theorem insP_sp {age : Nat → Int32} {x : Nat} {O : List Nat} : ∀ n, n ≤ O.length → (∀ j, insP age x O n ≤ j → j < n → age x < age (O.getD j 0)) ∧ (0 < insP age x O n → ¬ age x < age (O.getD (insP age x O n - 1) 0)) := by
  intro n
  induction n with
  | zero => intro _; exact ⟨fun j h1 h2 => by omega, fun h => absurd h (by show ¬ 0 < 0; omega)⟩
  | succ n ih =>
    intro hn
    obtain ⟨h1, h2⟩ := ih (by omega)
    by_cases h : age x < age (O.getD n 0)
    · rw [show insP age x O (n + 1) = insP age x O n from if_pos h]
      refine ⟨fun j a b => ?_, h2⟩
      by_cases e : j = n
      · subst e; exact h
      · exact h1 j a (by omega)
    · rw [show insP age x O (n + 1) = n + 1 from if_neg h]
      exact ⟨fun j a b => by omega, fun _ => h⟩
theorem insO_srt {age : Nat → Int32} {x : Nat} {O : List Nat} (h : Srt age O) : insO age x O = O.filter (fun y => !(decide (age x < age y))) ++ x :: O.filter (fun y => decide (age x < age y)) := by
  obtain ⟨h1, h2⟩ := insP_sp (age := age) (x := x) (O := O) O.length (Nat.le_refl _)
  have hp := insP_le (age := age) (x := x) (O := O) O.length
  unfold insO
  generalize hP : insP age x O O.length = p at h1 h2 hp ⊢
  have hA : ∀ y ∈ O.take p, ¬ age x < age y := by
    intro y hy hlt
    obtain ⟨j, hj, e⟩ := List.getElem_of_mem hy
    rw [List.length_take] at hj
    rw [List.getElem_take] at e
    have hp0 : 0 < p := by omega
    have h3 := h2 hp0
    have e2 : O.getD (p - 1) 0 = O[p - 1]'(by omega) := by rw [List.getD_eq_getElem?_getD, List.getElem?_eq_getElem (by omega)]; rfl
    by_cases ej : j = p - 1
    · subst ej
      rw [e2, e] at h3
      exact h3 hlt
    · have h4 : ¬ age (O[p - 1]'(by omega)) < age (O[j]'(by omega)) := List.pairwise_iff_getElem.mp h j (p - 1) (by omega) (by omega) (by omega)
      rw [e] at h4
      rw [e2] at h3
      exact h4 (Int32.lt_of_le_of_lt (Int32.not_lt.mp h3) hlt)
  have hB : ∀ y ∈ O.drop p, age x < age y := by
    intro y hy
    obtain ⟨j, hj, e⟩ := List.getElem_of_mem hy
    rw [List.length_drop] at hj
    rw [List.getElem_drop] at e
    have h3 := h1 (p + j) (by omega) (by omega)
    rw [List.getD_eq_getElem?_getD, List.getElem?_eq_getElem (by omega)] at h3
    rw [← e]
    exact h3
  have e1 : O.filter (fun y => !(decide (age x < age y))) = O.take p := by
    conv => lhs; rw [← List.take_append_drop p O]
    rw [List.filter_append, List.filter_eq_self.mpr (fun y hy => by rw [decide_eq_false (hA y hy)]; rfl), List.filter_eq_nil_iff.mpr (fun y hy => by rw [decide_eq_true (hB y hy)]; decide), List.append_nil]
  have e2 : O.filter (fun y => decide (age x < age y)) = O.drop p := by
    conv => lhs; rw [← List.take_append_drop p O]
    rw [List.filter_append, List.filter_eq_nil_iff.mpr (fun y hy => by rw [decide_eq_false (hA y hy)]; decide), List.filter_eq_self.mpr (fun y hy => decide_eq_true (hB y hy)), List.nil_append]
  rw [e1, e2]
theorem Srt.filter {age : Nat → Int32} {O : List Nat} (h : Srt age O) (S : Nat → Bool) : Srt age (O.filter S) := List.Pairwise.filter S h
theorem Srt.ins {age : Nat → Int32} {x : Nat} {O : List Nat} (h : Srt age O) : Srt age (insO age x O) := by
  rw [insO_srt h]
  refine List.pairwise_append.mpr ⟨h.filter _, List.pairwise_cons.mpr ⟨fun y hy => ?_, h.filter _⟩, fun a ha b hb => ?_⟩
  · have := of_decide_eq_true (List.mem_filter.mp hy).2
    exact Int32.not_lt.mpr (Int32.le_of_lt this)
  · have h1 : ¬ age x < age a := by
      have := (List.mem_filter.mp ha).2
      simpa using this
    rcases List.mem_cons.mp hb with rfl | hb
    · exact h1
    · have h2 := of_decide_eq_true (List.mem_filter.mp hb).2
      exact Int32.not_lt.mpr (Int32.le_of_lt (Int32.lt_of_le_of_lt (Int32.not_lt.mp h1) h2))
theorem ordO_srt {age : Nat → Int32} {S : Nat → Bool} : ∀ n, Srt age (ordO age S n) := by
  intro n
  induction n with
  | zero => exact List.Pairwise.nil
  | succ n ih =>
    by_cases h : S n = true
    · rw [ordO_t h]; exact ih.ins
    · rw [ordO_f h]; exact ih
theorem ordO_fl {age : Nat → Int32} {S : Nat → Bool} : ∀ n, ordO age S n = (ordO age (fun _ => true) n).filter S := by
  intro n
  induction n with
  | zero => rfl
  | succ n ih =>
    rw [ordO_t (S := fun _ => true) rfl, insO_srt (ordO_srt n), List.filter_append, List.filter_filter]
    have hsw : ∀ P : Nat → Bool, (ordO age (fun _ => true) n).filter (fun y => S y && P y) = (ordO age S n).filter P := fun P => by
      rw [ih, List.filter_filter]
      exact List.filter_congr (fun y _ => Bool.and_comm _ _)
    by_cases h : S n = true
    · rw [ordO_t h, insO_srt (ordO_srt n), List.filter_cons_of_pos h, List.filter_filter, hsw, hsw]
    · rw [ordO_f h, List.filter_cons_of_neg h, List.filter_filter, hsw, hsw]
      have := ordO_srt (age := age) (S := S) n
      have e := insO_srt (x := n) this
      -- the two halves of a sorted list
      have e3 : (ordO age S n).filter (fun y => !(decide (age n < age y))) ++ (ordO age S n).filter (fun y => decide (age n < age y)) = ordO age S n := by
        have e4 : (insO age n (ordO age S n)) = (ordO age S n).take (insP age n (ordO age S n) (ordO age S n).length) ++ n :: (ordO age S n).drop (insP age n (ordO age S n) (ordO age S n).length) := rfl
        rw [e4] at e
        have hn : n ∉ ordO age S n := fun z => by have := (ordO_mem.mp z).1; omega
        have key : ∀ (A B C D : List Nat), n ∉ A → n ∉ C → A ++ n :: B = C ++ n :: D → A = C ∧ B = D := by
          intro A
          induction A with
          | nil =>
            intro B C D _ hC e5
            cases C with
            | nil => cases e5; exact ⟨rfl, rfl⟩
            | cons c C => rw [List.nil_append, List.cons_append] at e5; injection e5 with e6 e7; exact absurd (by rw [e6]; exact List.mem_cons_self) hC
          | cons a A ihA =>
            intro B C D hA hC e5
            cases C with
            | nil => rw [List.nil_append, List.cons_append] at e5; injection e5 with e6 e7; exact absurd (by rw [e6]; exact List.mem_cons_self) hA
            | cons c C =>
              rw [List.cons_append, List.cons_append] at e5
              injection e5 with e6 e7
              obtain ⟨h1, h2⟩ := ihA B C D (fun z => hA (List.mem_cons_of_mem _ z)) (fun z => hC (List.mem_cons_of_mem _ z)) e7
              exact ⟨by rw [e6, h1], h2⟩
        obtain ⟨k1, k2⟩ := key _ _ _ _ (fun z => hn (List.mem_of_mem_take z)) (fun z => hn (List.mem_filter.mp z).1) e
        rw [← k1, ← k2, List.take_append_drop]
      exact e3.symm
theorem OA_len {w : Nat → Nat → Int32} {n : Nat} : (OA w n).length = n := by
  rw [ordO_len]
  induction n with
  | zero => rfl
  | succ n ih => show (if true = true then cK (fun _ => true) n + 1 else _) = _; rw [if_pos rfl, ih]
theorem OA_mem {w : Nat → Nat → Int32} {n l : Nat} : l ∈ OA w n ↔ l < n := by rw [ordO_mem]; simp
theorem OA_lt {w : Nat → Nat → Int32} {n k : Nat} (h : k < n) : (OA w n).getD k 0 < n := OA_mem.mp (getD_mem (by rw [OA_len]; exact h))
theorem OO_fl {w : Nat → Nat → Int32} {n : Nat} {set : Int32} : OO w n set = (OA w n).filter (tb set) := ordO_fl n

set_option maxRecDepth 100000 in
theorem c_X4_orderByAge (b : Nat) (hb : j_ob ΛX b 4) (n : Nat) (ag : Nat → Int32) (μ : j_M) (hc : μ.1 b 5 = nI n) (hn8 : n ≤ 8) (hag : ∀ l, l < n → μ.1 (b + 5 + 2 * l) 3 = ag l) : Ct yX4_orderByAge cX4_orderByAge 3 none 0 ΛX [.ref b] μ (pV fun μ2 => Fm (fun c _ => c = b + 4) μ μ2 ∧ ∀ j, j < n → μ2.1 (b + 4) j = nI ((ordO ag (fun _ => true) n).getD j 0)) := by
  refine Ct.go (lo := [some (.ref b), none, none]) (by decide) (Nat.le_of_ble_eq_true rfl) rfl rfl (fun X F => ?_)
  have F : Fx X cX4_orderByAge RX4 0 none ΛX := F
  refine v_iconst (pc := 0) (v := nI 0) F dX4_orderByAge_0 (by decide) ?_
  refine v_istore_n (pc := 1) (lo' := [some (.ref _), some (.int _), _]) F dX4_orderByAge_1 rfl rfl (Nat.le_of_ble_eq_true rfl) rfl ?_
  refine j_up n (fun k => ∀ μ' : j_M, (Fm (fun c _ => c = b + 4) μ μ' ∧ ∀ j, j < k → μ'.1 (b + 4) j = nI ((ordO ag (fun _ => true) k).getD j 0)) → V X _ 2 [some (.ref b), some (.int (nI k)), none] [] μ') (fun k hk ih μ' hI => ?_) 0 (Nat.zero_le _) μ (⟨Fm.rf, fun j hj => absurd hj (Nat.not_lt_zero _)⟩)
  refine v_iload_n (pc := 2) (i := 1) F dX4_orderByAge_2 rfl rfl ?_
  refine v_aload_n (pc := 3) (i := 0) F dX4_orderByAge_3 rfl rfl ?_
  refine v_getI (pc := 4) F fX4_44 dX4_orderByAge_4 rfl hb ?_
  refine v_topE (y := nI n) ((hI.1.1 b 5 (by omega)).trans hc) ?_
  refine v_icmp_ge (pc := 7) (tgt := 77) F dX4_orderByAge_7 (by decide) (fun h7_1 => ?_) (fun h7_1 => ?_)
  · rw [nI_leI (by omega) (by omega)] at h7_1
    refine v_return (pc := 77) F dX4_orderByAge_77 ?_
    have e : k = n := by omega
    subst e
    exact hI
  · rw [nI_leI (by omega) (by omega)] at h7_1
    obtain ⟨O, hO⟩ : ∃ O, O = ordO ag (fun _ => true) k := ⟨_, rfl⟩
    rw [← hO] at hI
    have hOl : O.length = k := by rw [hO]; exact OA_len (w := fun _ => ag)
    have hOm : ∀ j, j < k → O.getD j 0 < k := fun j hj => by rw [hO]; exact OA_lt (w := fun _ => ag) hj
    refine v_iload_n (pc := 10) (i := 1) F dX4_orderByAge_10 rfl rfl ?_
    refine v_istore_n (pc := 11) (lo' := [some (.ref _), some (.int _), some (.int _)]) F dX4_orderByAge_11 rfl rfl (Nat.le_of_ble_eq_true rfl) rfl ?_
    refine j_dn (fun i => ∀ μ'' : j_M, (Fm (fun c _ => c = b + 4) μ μ'' ∧ i ≤ k ∧ (∀ j, j < i → μ''.1 (b + 4) j = nI (O.getD j 0)) ∧ (∀ j, i < j → j ≤ k → μ''.1 (b + 4) j = nI (O.getD (j - 1) 0)) ∧ insP ag k O k = insP ag k O i) → V X _ 12 [some (.ref b), some (.int (nI k)), some (.int (nI i))] [] μ'') (fun i ih2 μ'' hJ => ?_) k μ' ⟨hI.1, Nat.le_refl _, fun j hj => hI.2 j hj, fun j h1 h2 => absurd h1 (by omega), rfl⟩
    have hi8 := hJ.2.1
    refine v_iload_n (pc := 12) (i := 2) F dX4_orderByAge_12 rfl rfl ?_
    refine v_if_le (pc := 13) (tgt := 64) F dX4_orderByAge_13 (by decide) (fun hi => ?_) (fun hi => ?_)
    · rw [j_le0 (by omega)] at hi
      refine v_aload_n (pc := 64) (i := 0) F dX4_orderByAge_64 rfl rfl ?_
      refine v_getR (pc := 65) (o := 4) F fX4_24 dX4_orderByAge_65 rfl hb ?_
      refine v_topR (y := b + 4) rfl ?_
      refine v_iload_n (pc := 68) (i := 2) F dX4_orderByAge_68 rfl rfl ?_
      refine v_iload_n (pc := 69) (i := 1) F dX4_orderByAge_69 rfl rfl ?_
      refine v_iastN (pc := 70) (k0 := i) F dX4_orderByAge_70 (lx4_3 hb) (rfl) (by omega) (by decide) ?_
      refine v_iinc (pc := 71) (i := 1) (v := nI (k + 1)) (lo' := [some (.ref _), some (.int _), some (.int _)]) F dX4_orderByAge_71 rfl (j_inc _) rfl rfl ?_
      refine v_goto (pc := 74) (tgt := 2) F dX4_orderByAge_74 (by decide) ?_
      refine v_drop (i := 2) (lo' := [some (.ref _), some (.int _), _]) rfl ?_
      have hp : insP ag k O O.length = i := by
        rw [hOl, hJ.2.2.2.2]
        first | (subst hi; rfl) | (rw [insP_s (by omega)]; exact if_neg (Int32.not_lt.mpr ha))
      refine ih (by omega) (j_pI μ'' (b + 4) i (nI k)) ⟨hJ.1.pI rfl, ?_⟩
      intro j hj
      rw [show ordO ag (fun _ => true) (k + 1) = insO ag k O by rw [hO]; exact ordO_t rfl, insO_get hp j (by omega)]
      by_cases e : j = i
      · subst e; rw [j_pI_at, if_neg (by omega), if_pos rfl]
      · rw [j_pI_off (by omega)]
        by_cases e2 : j < i
        · rw [if_pos e2]; exact hJ.2.2.1 j e2
        · rw [if_neg e2, if_neg e]; exact hJ.2.2.2.1 j (by omega) (by omega)
    · rw [j_le0 (by omega)] at hi
      refine v_aload_n (pc := 16) (i := 0) F dX4_orderByAge_16 rfl rfl ?_
      refine v_getR (pc := 17) (o := 3) F fX4_20 dX4_orderByAge_17 rfl hb ?_
      refine v_topR (y := b + 3) rfl ?_
      refine v_aload_n (pc := 20) (i := 0) F dX4_orderByAge_20 rfl rfl ?_
      refine v_getR (pc := 21) (o := 4) F fX4_24 dX4_orderByAge_21 rfl hb ?_
      refine v_topR (y := b + 4) rfl ?_
      refine v_iload_n (pc := 24) (i := 2) F dX4_orderByAge_24 rfl rfl ?_
      refine v_iconst (pc := 25) (v := nI 1) F dX4_orderByAge_25 (by decide) ?_
      refine v_isub (pc := 26) F dX4_orderByAge_26 ?_
      refine v_topE (pk_sub (by omega)) ?_
      refine v_ialdN (pc := 27) (k0 := i - 1) F dX4_orderByAge_27 (lx4_3 hb) (rfl) (by omega) (by decide) ?_
      refine v_topE (y := nI ((O.getD (i - 1) 0))) (hJ.2.2.1 (i - 1) (by omega)) ?_
      refine v_aald14N (pc := 28) (k0 := (O.getD (i - 1) 0)) (x := b + 5 + 2 * ((O.getD (i - 1) 0))) F dX4_orderByAge_28 (lx4_2 hb) (rfl) (by have := hOm (i - 1) (by omega); omega) (by decide) (by simp only [j_ro]; first | rfl | omega | (split <;> omega)) ?_
      have ho3 : j_ob ΛX (b + 5 + 2 * ((O.getD (i - 1) 0))) 3 := by
        have q := lxL (lx4_2 hb) (j := (O.getD (i - 1) 0)) (by have := hOm (i - 1) (by omega); omega)
        simp only [j_ro] at q
        exact (by first | exact q | (rw [show b + 5 + 2 * ((O.getD (i - 1) 0)) = _ from (by first | rfl | omega)]; exact q))
      refine v_getI (pc := 29) F fX4_68 dX4_orderByAge_29 rfl ho3 ?_
      refine v_topE (y := (ag ((O.getD (i - 1) 0)))) ((hJ.1.1 _ _ (by omega)).trans (hag ((O.getD (i - 1) 0)) (by have := hOm (i - 1) (by omega); omega))) ?_
      refine v_aload_n (pc := 32) (i := 0) F dX4_orderByAge_32 rfl rfl ?_
      refine v_getR (pc := 33) (o := 3) F fX4_20 dX4_orderByAge_33 rfl hb ?_
      refine v_topR (y := b + 3) rfl ?_
      refine v_iload_n (pc := 36) (i := 1) F dX4_orderByAge_36 rfl rfl ?_
      refine v_aald14N (pc := 37) (k0 := k) (x := b + 5 + 2 * k) F dX4_orderByAge_37 (lx4_2 hb) (rfl) (by omega) (by decide) (by simp only [j_ro]; first | rfl | omega | (split <;> omega)) ?_
      have ho4 : j_ob ΛX (b + 5 + 2 * k) 3 := by
        have q := lxL (lx4_2 hb) (j := k) (by omega)
        simp only [j_ro] at q
        exact (by first | exact q | (rw [show b + 5 + 2 * k = _ from (by first | rfl | omega)]; exact q))
      refine v_getI (pc := 38) F fX4_68 dX4_orderByAge_38 rfl ho4 ?_
      refine v_topE (y := (ag k)) ((hJ.1.1 _ _ (by omega)).trans (hag k (by omega))) ?_
      refine v_icmp_le (pc := 41) (tgt := 64) F dX4_orderByAge_41 (by decide) (fun ha => ?_) (fun ha => ?_)
      · skip
        refine v_aload_n (pc := 64) (i := 0) F dX4_orderByAge_64 rfl rfl ?_
        refine v_getR (pc := 65) (o := 4) F fX4_24 dX4_orderByAge_65 rfl hb ?_
        refine v_topR (y := b + 4) rfl ?_
        refine v_iload_n (pc := 68) (i := 2) F dX4_orderByAge_68 rfl rfl ?_
        refine v_iload_n (pc := 69) (i := 1) F dX4_orderByAge_69 rfl rfl ?_
        refine v_iastN (pc := 70) (k0 := i) F dX4_orderByAge_70 (lx4_3 hb) (rfl) (by omega) (by decide) ?_
        refine v_iinc (pc := 71) (i := 1) (v := nI (k + 1)) (lo' := [some (.ref _), some (.int _), some (.int _)]) F dX4_orderByAge_71 rfl (j_inc _) rfl rfl ?_
        refine v_goto (pc := 74) (tgt := 2) F dX4_orderByAge_74 (by decide) ?_
        refine v_drop (i := 2) (lo' := [some (.ref _), some (.int _), _]) rfl ?_
        have hp : insP ag k O O.length = i := by
          rw [hOl, hJ.2.2.2.2]
          first | (subst hi; rfl) | (rw [insP_s (by omega)]; exact if_neg (Int32.not_lt.mpr ha))
        refine ih (by omega) (j_pI μ'' (b + 4) i (nI k)) ⟨hJ.1.pI rfl, ?_⟩
        intro j hj
        rw [show ordO ag (fun _ => true) (k + 1) = insO ag k O by rw [hO]; exact ordO_t rfl, insO_get hp j (by omega)]
        by_cases e : j = i
        · subst e; rw [j_pI_at, if_neg (by omega), if_pos rfl]
        · rw [j_pI_off (by omega)]
          by_cases e2 : j < i
          · rw [if_pos e2]; exact hJ.2.2.1 j e2
          · rw [if_neg e2, if_neg e]; exact hJ.2.2.2.1 j (by omega) (by omega)
      · skip
        refine v_aload_n (pc := 44) (i := 0) F dX4_orderByAge_44 rfl rfl ?_
        refine v_getR (pc := 45) (o := 4) F fX4_24 dX4_orderByAge_45 rfl hb ?_
        refine v_topR (y := b + 4) rfl ?_
        refine v_iload_n (pc := 48) (i := 2) F dX4_orderByAge_48 rfl rfl ?_
        refine v_aload_n (pc := 49) (i := 0) F dX4_orderByAge_49 rfl rfl ?_
        refine v_getR (pc := 50) (o := 4) F fX4_24 dX4_orderByAge_50 rfl hb ?_
        refine v_topR (y := b + 4) rfl ?_
        refine v_iload_n (pc := 53) (i := 2) F dX4_orderByAge_53 rfl rfl ?_
        refine v_iconst (pc := 54) (v := nI 1) F dX4_orderByAge_54 (by decide) ?_
        refine v_isub (pc := 55) F dX4_orderByAge_55 ?_
        refine v_topE (pk_sub (by omega)) ?_
        refine v_ialdN (pc := 56) (k0 := i - 1) F dX4_orderByAge_56 (lx4_3 hb) (rfl) (by omega) (by decide) ?_
        refine v_topE (y := nI ((O.getD (i - 1) 0))) (hJ.2.2.1 (i - 1) (by omega)) ?_
        refine v_iastN (pc := 57) (k0 := i) F dX4_orderByAge_57 (lx4_3 hb) (rfl) (by omega) (by decide) ?_
        refine v_iinc (pc := 58) (i := 2) (v := nI (i - 1)) (lo' := [some (.ref _), some (.int _), some (.int _)]) F dX4_orderByAge_58 rfl (j_decr (by omega)) rfl rfl ?_
        refine v_goto (pc := 61) (tgt := 12) F dX4_orderByAge_61 (by decide) ?_
        refine ih2 (i - 1) (by omega) _ ⟨hJ.1.pI rfl, by omega, ?_, ?_, ?_⟩
        · intro j hj; rw [j_pI_off (by omega)]; exact hJ.2.2.1 j (by omega)
        · intro j h1 h2
          by_cases e : j = i
          · subst e; rw [j_pI_at]
          · rw [j_pI_off (by omega)]; exact hJ.2.2.2.1 j (by omega) h2
        · rw [hJ.2.2.2.2, insP_s (by omega)]
          exact if_pos (Int32.not_le.mp ha)
