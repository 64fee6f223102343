/-! the two memories at the start -/
theorem MI_0 : MI n_mM := by
  refine ⟨0, ⟨rfl, Nat.zero_le _, fun p _ => Or.inl rfl, fun l hl => absurd hl (Nat.not_lt_zero _)⟩, fun s _ => Or.inl rfl, ⟨0, Nat.zero_le _, rfl⟩, Or.inl rfl⟩
theorem Rel_0 : Rel (n_m n_l9) n_mM := by
  have hn : nn n_mM = 0 := by decide +kernel
  refine ⟨?_, ?_, ⟨by decide +kernel, fun j _ => rfl⟩, fun j _ => rfl, ⟨rfl, fun h => absurd h (by decide +kernel)⟩⟩
  · rw [hn]
    exact ⟨fun p _ => rfl, by decide +kernel, fun j hj => absurd hj (Nat.not_lt_zero _), fun l hl => absurd hl (Nat.not_lt_zero _), by decide +kernel, by decide +kernel, by decide +kernel, by decide +kernel⟩
  · intro s hs
    rcases (show s = 0 ∨ s = 1 ∨ s = 2 ∨ s = 3 ∨ s = 4 ∨ s = 5 ∨ s = 6 ∨ s = 7 by omega) with rfl | rfl | rfl | rfl | rfl | rfl | rfl | rfl <;> exact ⟨by decide +kernel, fun h => absurd h (by decide +kernel), fun j _ => rfl⟩
/-! other addresses beyond the pool change nothing -/
theorem n_re {D : va_G} {k : Nat → ClassId} {Λ : j_L} {μ : j_M} {a a' : Nat → Nat} {H : Heap} (hcl : ∀ i, i < Λ.1 → Λ.2.1 i < 11 → ∀ j, j < j_nf (Λ.2.1 i) → ∀ o, j_fo (Λ.2.1 i) j = some o → i + o < Λ.1) (hra : ∀ i, i < Λ.1 → (Λ.2.1 i = 14 ∨ Λ.2.1 i = 15) → ∀ j, j < Λ.2.2 i → j_ro (Λ.2.1 i) i j < Λ.1) (ha : ∀ i, i < Λ.1 → a' i = a i) (hP : va_P D vwCl (j_wl (n_G D k a) Λ μ) H) : va_P D vwCl (j_wl (n_G D k a') Λ μ) H := by
  intro i q hq
  have hi : i < Λ.1 := by
    have h1 := (List.getElem?_eq_some_iff.mp hq).1
    unfold j_wl at h1
    rw [List.length_map, List.length_range] at h1
    exact h1
  rw [j_at hi] at hq
  cases hq
  have h : va_at D vwCl (a i, j_en (n_G D k a) Λ μ i) H := hP i _ (j_at hi)
  show va_at D vwCl (a' i, j_en (n_G D k a') Λ μ i) H
  rw [ha i hi]
  unfold j_en at h ⊢
  by_cases c1 : Λ.2.1 i < 11
  · rw [if_pos c1] at h ⊢
    have e : j_fs (n_G D k a') μ i (Λ.2.1 i) = j_fs (n_G D k a) μ i (Λ.2.1 i) := by
      unfold j_fs
      refine List.map_congr_left (fun j hj => ?_)
      unfold j_fv
      cases ho : j_fo (Λ.2.1 i) j with
      | none => rfl
      | some o => exact congrArg Value.ref (ha _ (hcl i hi c1 j (List.mem_range.mp hj) o ho))
    rw [e]
    exact h
  · rw [if_neg c1] at h ⊢
    have e : vp_cell (k (Λ.2.1 i)) (j_ar (n_G D k a') μ (Λ.2.1 i) i (Λ.2.2 i)) = vp_cell (k (Λ.2.1 i)) (j_ar (n_G D k a) μ (Λ.2.1 i) i (Λ.2.2 i)) := by
      unfold j_ar
      by_cases c2 : Λ.2.1 i = 12
      · rw [if_pos c2, if_pos c2]
      · rw [if_neg c2, if_neg c2]
        by_cases c3 : Λ.2.1 i = 14 ∨ Λ.2.1 i = 15
        · rw [if_pos c3, if_pos c3, vp_cell_q, vp_cell_q]
          exact arrV_congr (fun j hj => congrArg (fun z => va_rf (some z)) (ha _ (hra i hi c3 j hj)))
        · rw [if_neg c3, if_neg c3]
    have h' : H[a i]? = some (vp_cell (k (Λ.2.1 i)) (j_ar (n_G D k a) μ (Λ.2.1 i) i (Λ.2.2 i))) := h
    show H[a i]? = some (vp_cell (k (Λ.2.1 i)) (j_ar (n_G D k a') μ (Λ.2.1 i) i (Λ.2.2 i)))
    rw [e]; exact h'
def n_clo (Λ : j_L) : Bool := (List.range Λ.1).all fun i => (!decide (Λ.2.1 i < 11) || (List.range (j_nf (Λ.2.1 i))).all (fun j => match j_fo (Λ.2.1 i) j with
    | some o => decide (i + o < Λ.1)
    | none => true)) && (!decide (Λ.2.1 i = 14 ∨ Λ.2.1 i = 15) || (List.range (Λ.2.2 i)).all (fun j => decide (j_ro (Λ.2.1 i) i j < Λ.1)))
theorem n_re2 {D : va_G} {k : Nat → ClassId} {Λ : j_L} {μ : j_M} {a a' : Nat → Nat} {H : Heap} (hc : n_clo Λ = true) (ha : ∀ i, i < Λ.1 → a' i = a i) (hP : va_P D vwCl (j_wl (n_G D k a) Λ μ) H) : va_P D vwCl (j_wl (n_G D k a') Λ μ) H := by
  refine n_re (fun i hi h1 j hj o ho => ?_) (fun i hi h1 j hj => ?_) ha hP
  · have h := List.all_eq_true.mp hc i (List.mem_range.mpr hi)
    rw [Bool.and_eq_true] at h
    have h2 := h.1
    rw [decide_eq_true h1, Bool.not_true, Bool.false_or] at h2
    have h3 := List.all_eq_true.mp h2 j (List.mem_range.mpr hj)
    rw [ho] at h3
    exact of_decide_eq_true h3
  · have h := List.all_eq_true.mp hc i (List.mem_range.mpr hi)
    rw [Bool.and_eq_true] at h
    have h2 := h.2
    rw [decide_eq_true h1, Bool.not_true, Bool.false_or] at h2
    exact of_decide_eq_true (List.all_eq_true.mp h2 j (List.mem_range.mpr hj))
theorem n_cloX : n_clo ΛX = true := by decide +kernel
theorem n_cloM : n_clo ΛM = true := by decide +kernel
/-! what stands at the law's start beside the pools -/
theorem vk_S_congr {N : Nat} {len : List Nat} {byt : List (List Int32)} {aK aV bK bV : Nat → Nat} {A : Nat → Prop} {U : State} {H : Heap} (h : vk_S N len byt aK aV A U H) (e1 : ∀ i, i < N → bK i = aK i) (e2 : ∀ i, i < N → bV i = aV i) : vk_S N len byt bK bV A U H := by
  refine ⟨fun i hi => ?_, fun i j hi hj e => h.2 i j hi hj (by rw [← e1 i hi, ← e1 j hj]; exact e)⟩
  rw [e1 i hi, e2 i hi]
  exact h.1 i hi
def n_tm (i : Nat) : Term := .string RX7 ([116, 118, 120, 122, 124, 125].getD i 0)
theorem n_nest {A : Array Value} {s : State} (hts : ∀ w ∈ lw_tbl, w.before A s = true) : ∀ w ∈ j_nw, va_Nw w s := by
  intro w hw
  have h1 := hts w (List.mem_filter.mp hw).1
  have h2 := (List.mem_filter.mp hw).2
  cases w <;> first | exact va_Nw.of rfl h1 | (simp [j_isN] at h2; done)
theorem n_arrI {A : Array Value} {s : State} {ty : FieldType} (h : (Cond.arrayClass ty).before A s = true) : ∃ cA : ClassId, ArrOfT s cA ty ∧ s.vm.findClass ("[" ++ ty.toString) = some cA := by
  obtain ⟨cA, kA, comp, h1, h2, h3⟩ := Cond.arrayClass_spec h
  exact ⟨cA, fun n z => ⟨fun k h => (by cases h), kA, h2, comp, h3⟩, h1⟩
theorem n_arrQ {s : State} {C : String} (h : va_AO C s) : ∃ cA : ClassId, ArrOfT s cA (.object C) ∧ va_RA s cA (.object C) := by
  obtain ⟨comp, cA, kA, h1, h2, h3, h4, h5⟩ := Cond.arrayOver_spec (va_AO.use (A := #[]) h)
  exact ⟨cA, fun n z => ⟨fun k h => (by cases h), kA, h3, comp, h4⟩, kA, comp, h3, h4, h1, h5⟩

set_option maxHeartbeats 4000000 in
theorem n_start {A : Array Value} {s : State} (hts0 : ∀ w ∈ lw_tbl, w.before A s = true) : ∃ (D : va_G) (k : Nat → ClassId), n_K D k s := by
  have hts : ∀ w ∈ j_gw, w.before A s = true := fun w hw => hts0 w (List.mem_filter.mp hw).1
  obtain ⟨c0, iS0, hKn0⟩ := u_known (C := RX0) (T := TX0) (N := 1) (n := 1) hts uw0 (hts _ in_X0)
  obtain ⟨c1, iS1, hKn1⟩ := u_known (C := RX1) (T := TX1) (N := 5) (n := 5) hts uw1 (hts _ in_X1)
  obtain ⟨c2, iS2, hKn2⟩ := u_known (C := RX2) (T := TX2) (N := 4) (n := 4) hts uw2 (hts _ in_X2)
  obtain ⟨c3, iS3, hKn3⟩ := u_known (C := RX3) (T := TX3) (N := 7) (n := 7) hts uw3 (hts _ in_X3)
  obtain ⟨c4, iS4, hKn4⟩ := u_known (C := RX4) (T := TX4) (N := 8) (n := 8) hts uw4 (hts _ in_X4)
  obtain ⟨c5, iS5, hKn5⟩ := u_known (C := RX5) (T := TX5) (N := 3) (n := 3) hts uw5 (hts _ in_X5)
  obtain ⟨c6, iS6, hKn6⟩ := u_known (C := RX6) (T := TX6) (N := 2) (n := 2) hts uw6 (hts _ in_X6)
  obtain ⟨c7, iS7, hKn7⟩ := u_known (C := RX7) (T := TX7) (N := 4) (n := 4) hts uw7 (hts _ in_X7)
  obtain ⟨c8, iS8, hKn8⟩ := u_known (C := RX8) (T := TX8) (N := 4) (n := 4) hts uw8 (hts _ in_X8)
  obtain ⟨c9, iS9, hKn9⟩ := u_known (C := RX9) (T := TX9) (N := 12) (n := 12) hts uw9 (hts _ in_X9)
  obtain ⟨c10, iS10, hKn10⟩ := u_known (C := RX10) (T := TX10) (N := 33) (n := 33) hts uw10 (hts _ in_X10)
  obtain ⟨dC, dI, hKc⟩ : ∃ (dC : Nat → ClassId) (dI : Nat → Nat → Nat), ∀ (k : Nat) (q : vw_C), vwCl[k]? = some q → u_Kn s q.1 q.2.1 q.2.2 (dC k) (dI k) := by
    refine ⟨fun k => ([c0, c1, c2, c3, c4, c5, c6, c7, c8, c9, c10] : List ClassId).getD k 0, fun k => ([iS0, iS1, iS2, iS3, iS4, iS5, iS6, iS7, iS8, iS9, iS10] : List (Nat → Nat)).getD k (fun _ => 0), ?_⟩
    intro k q hq
    match k, hq with
    | 0, hq => cases hq; exact hKn0
    | 1, hq => cases hq; exact hKn1
    | 2, hq => cases hq; exact hKn2
    | 3, hq => cases hq; exact hKn3
    | 4, hq => cases hq; exact hKn4
    | 5, hq => cases hq; exact hKn5
    | 6, hq => cases hq; exact hKn6
    | 7, hq => cases hq; exact hKn7
    | 8, hq => cases hq; exact hKn8
    | 9, hq => cases hq; exact hKn9
    | 10, hq => cases hq; exact hKn10
    | k + 11, hq => simp [vwCl] at hq
  obtain ⟨cI, a1, b1⟩ := n_arrI (hts _ ac_90)
  obtain ⟨cJ, a2, b2⟩ := n_arrI (hts _ ac_289)
  obtain ⟨cZ, a3, b3⟩ := n_arrI (hts _ ac_1177)
  have o1 : va_AO RX3 s := va_AO.of (hts0 _ (j_c1 (i := 36) (by decide +kernel)))
  have o2 : va_AO RX5 s := va_AO.of (hts0 _ (j_c2 (i := 30) (by decide +kernel)))
  obtain ⟨cL, a4, b4⟩ := n_arrQ o1
  obtain ⟨cS, a5, b5⟩ := n_arrQ o2
  refine ⟨(dC, dI), fun i => if i = 11 then cI else if i = 12 then cJ else if i = 13 then cZ else if i = 14 then cL else cS, ⟨hKc, fun k q hq => ?_⟩, n_nest hts0, o1, o2⟩
  match k, hq with
  | 0, hq => cases hq; exact ⟨a1, b1⟩
  | 1, hq => cases hq; exact ⟨a2, b2⟩
  | 2, hq => cases hq; exact ⟨a3, b3⟩
  | 3, hq => cases hq; exact ⟨a4, b4⟩
  | 4, hq => cases hq; exact ⟨a5, b5⟩
  | k + 5, hq => simp [n_T] at hq

def n_fl : List Cond := flatC (Jvm.Cond.and given_1 narrow_1)
theorem n_x0 : Cond.exactly (n_tm 0) "java/lang/String" ∈ n_fl := by decide +kernel
theorem n_c0 : Cond.eq (.field (n_tm 0) "java/lang/String" "coder" "B") (.int 0) ∈ n_fl := by decide +kernel
theorem n_v0 : Cond.arrayOf (Term.field (n_tm 0) "java/lang/String" "value" "[B") .byte ∈ n_fl := by decide +kernel
theorem n_n0 : Cond.eq (.length (Term.field (n_tm 0) "java/lang/String" "value" "[B")) (.int 5) ∈ n_fl := by decide +kernel
theorem n_e0_0 : Cond.eq (.elem (Term.field (n_tm 0) "java/lang/String" "value" "[B") (.int 0)) (.int 112) ∈ n_fl := by decide +kernel
theorem n_e0_1 : Cond.eq (.elem (Term.field (n_tm 0) "java/lang/String" "value" "[B") (.int 1)) (.int 108) ∈ n_fl := by decide +kernel
theorem n_e0_2 : Cond.eq (.elem (Term.field (n_tm 0) "java/lang/String" "value" "[B") (.int 2)) (.int 97) ∈ n_fl := by decide +kernel
theorem n_e0_3 : Cond.eq (.elem (Term.field (n_tm 0) "java/lang/String" "value" "[B") (.int 3)) (.int 99) ∈ n_fl := by decide +kernel
theorem n_e0_4 : Cond.eq (.elem (Term.field (n_tm 0) "java/lang/String" "value" "[B") (.int 4)) (.int 101) ∈ n_fl := by decide +kernel
theorem n_d0_1 : Cond.not (Cond.eq (n_tm 0) (n_tm 1)) ∈ n_fl := by decide +kernel
theorem n_d0_2 : Cond.not (Cond.eq (n_tm 0) (n_tm 2)) ∈ n_fl := by decide +kernel
theorem n_d0_3 : Cond.not (Cond.eq (n_tm 0) (n_tm 3)) ∈ n_fl := by decide +kernel
theorem n_d0_4 : Cond.not (Cond.eq (n_tm 0) (n_tm 4)) ∈ n_fl := by decide +kernel
theorem n_d0_5 : Cond.not (Cond.eq (n_tm 0) (n_tm 5)) ∈ n_fl := by decide +kernel
theorem n_q0 : Cond.eq (n_tm 0) (.string RX10 165) ∈ n_fl := by decide +kernel
theorem n_x1 : Cond.exactly (n_tm 1) "java/lang/String" ∈ n_fl := by decide +kernel
theorem n_c1 : Cond.eq (.field (n_tm 1) "java/lang/String" "coder" "B") (.int 0) ∈ n_fl := by decide +kernel
theorem n_v1 : Cond.arrayOf (Term.field (n_tm 1) "java/lang/String" "value" "[B") .byte ∈ n_fl := by decide +kernel
theorem n_n1 : Cond.eq (.length (Term.field (n_tm 1) "java/lang/String" "value" "[B")) (.int 5) ∈ n_fl := by decide +kernel
theorem n_e1_0 : Cond.eq (.elem (Term.field (n_tm 1) "java/lang/String" "value" "[B") (.int 0)) (.int 99) ∈ n_fl := by decide +kernel
theorem n_e1_1 : Cond.eq (.elem (Term.field (n_tm 1) "java/lang/String" "value" "[B") (.int 1)) (.int 108) ∈ n_fl := by decide +kernel
theorem n_e1_2 : Cond.eq (.elem (Term.field (n_tm 1) "java/lang/String" "value" "[B") (.int 2)) (.int 101) ∈ n_fl := by decide +kernel
theorem n_e1_3 : Cond.eq (.elem (Term.field (n_tm 1) "java/lang/String" "value" "[B") (.int 3)) (.int 97) ∈ n_fl := by decide +kernel
theorem n_e1_4 : Cond.eq (.elem (Term.field (n_tm 1) "java/lang/String" "value" "[B") (.int 4)) (.int 114) ∈ n_fl := by decide +kernel
theorem n_d1_2 : Cond.not (Cond.eq (n_tm 1) (n_tm 2)) ∈ n_fl := by decide +kernel
theorem n_d1_3 : Cond.not (Cond.eq (n_tm 1) (n_tm 3)) ∈ n_fl := by decide +kernel
theorem n_d1_4 : Cond.not (Cond.eq (n_tm 1) (n_tm 4)) ∈ n_fl := by decide +kernel
theorem n_d1_5 : Cond.not (Cond.eq (n_tm 1) (n_tm 5)) ∈ n_fl := by decide +kernel
theorem n_q1 : Cond.eq (n_tm 1) (.string RX10 175) ∈ n_fl := by decide +kernel
theorem n_x2 : Cond.exactly (n_tm 2) "java/lang/String" ∈ n_fl := by decide +kernel
theorem n_c2 : Cond.eq (.field (n_tm 2) "java/lang/String" "coder" "B") (.int 0) ∈ n_fl := by decide +kernel
theorem n_v2 : Cond.arrayOf (Term.field (n_tm 2) "java/lang/String" "value" "[B") .byte ∈ n_fl := by decide +kernel
theorem n_n2 : Cond.eq (.length (Term.field (n_tm 2) "java/lang/String" "value" "[B")) (.int 6) ∈ n_fl := by decide +kernel
theorem n_e2_0 : Cond.eq (.elem (Term.field (n_tm 2) "java/lang/String" "value" "[B") (.int 0)) (.int 108) ∈ n_fl := by decide +kernel
theorem n_e2_1 : Cond.eq (.elem (Term.field (n_tm 2) "java/lang/String" "value" "[B") (.int 1)) (.int 111) ∈ n_fl := by decide +kernel
theorem n_e2_2 : Cond.eq (.elem (Term.field (n_tm 2) "java/lang/String" "value" "[B") (.int 2)) (.int 111) ∈ n_fl := by decide +kernel
theorem n_e2_3 : Cond.eq (.elem (Term.field (n_tm 2) "java/lang/String" "value" "[B") (.int 3)) (.int 107) ∈ n_fl := by decide +kernel
theorem n_e2_4 : Cond.eq (.elem (Term.field (n_tm 2) "java/lang/String" "value" "[B") (.int 4)) (.int 101) ∈ n_fl := by decide +kernel
theorem n_e2_5 : Cond.eq (.elem (Term.field (n_tm 2) "java/lang/String" "value" "[B") (.int 5)) (.int 114) ∈ n_fl := by decide +kernel
theorem n_d2_3 : Cond.not (Cond.eq (n_tm 2) (n_tm 3)) ∈ n_fl := by decide +kernel
theorem n_d2_4 : Cond.not (Cond.eq (n_tm 2) (n_tm 4)) ∈ n_fl := by decide +kernel
theorem n_d2_5 : Cond.not (Cond.eq (n_tm 2) (n_tm 5)) ∈ n_fl := by decide +kernel
theorem n_q2 : Cond.eq (n_tm 2) (.string RX10 177) ∈ n_fl := by decide +kernel
theorem n_x3 : Cond.exactly (n_tm 3) "java/lang/String" ∈ n_fl := by decide +kernel
theorem n_c3 : Cond.eq (.field (n_tm 3) "java/lang/String" "coder" "B") (.int 0) ∈ n_fl := by decide +kernel
theorem n_v3 : Cond.arrayOf (Term.field (n_tm 3) "java/lang/String" "value" "[B") .byte ∈ n_fl := by decide +kernel
theorem n_n3 : Cond.eq (.length (Term.field (n_tm 3) "java/lang/String" "value" "[B")) (.int 5) ∈ n_fl := by decide +kernel
theorem n_e3_0 : Cond.eq (.elem (Term.field (n_tm 3) "java/lang/String" "value" "[B") (.int 0)) (.int 108) ∈ n_fl := by decide +kernel
theorem n_e3_1 : Cond.eq (.elem (Term.field (n_tm 3) "java/lang/String" "value" "[B") (.int 1)) (.int 105) ∈ n_fl := by decide +kernel
theorem n_e3_2 : Cond.eq (.elem (Term.field (n_tm 3) "java/lang/String" "value" "[B") (.int 2)) (.int 107) ∈ n_fl := by decide +kernel
theorem n_e3_3 : Cond.eq (.elem (Term.field (n_tm 3) "java/lang/String" "value" "[B") (.int 3)) (.int 101) ∈ n_fl := by decide +kernel
theorem n_e3_4 : Cond.eq (.elem (Term.field (n_tm 3) "java/lang/String" "value" "[B") (.int 4)) (.int 115) ∈ n_fl := by decide +kernel
theorem n_d3_4 : Cond.not (Cond.eq (n_tm 3) (n_tm 4)) ∈ n_fl := by decide +kernel
theorem n_d3_5 : Cond.not (Cond.eq (n_tm 3) (n_tm 5)) ∈ n_fl := by decide +kernel
theorem n_q3 : Cond.eq (n_tm 3) (.string RX10 179) ∈ n_fl := by decide +kernel
theorem n_x4 : Cond.exactly (n_tm 4) "java/lang/String" ∈ n_fl := by decide +kernel
theorem n_c4 : Cond.eq (.field (n_tm 4) "java/lang/String" "coder" "B") (.int 0) ∈ n_fl := by decide +kernel
theorem n_v4 : Cond.arrayOf (Term.field (n_tm 4) "java/lang/String" "value" "[B") .byte ∈ n_fl := by decide +kernel
theorem n_n4 : Cond.eq (.length (Term.field (n_tm 4) "java/lang/String" "value" "[B")) (.int 5) ∈ n_fl := by decide +kernel
theorem n_e4_0 : Cond.eq (.elem (Term.field (n_tm 4) "java/lang/String" "value" "[B") (.int 0)) (.int 99) ∈ n_fl := by decide +kernel
theorem n_e4_1 : Cond.eq (.elem (Term.field (n_tm 4) "java/lang/String" "value" "[B") (.int 1)) (.int 111) ∈ n_fl := by decide +kernel
theorem n_e4_2 : Cond.eq (.elem (Term.field (n_tm 4) "java/lang/String" "value" "[B") (.int 2)) (.int 109) ∈ n_fl := by decide +kernel
theorem n_e4_3 : Cond.eq (.elem (Term.field (n_tm 4) "java/lang/String" "value" "[B") (.int 3)) (.int 101) ∈ n_fl := by decide +kernel
theorem n_e4_4 : Cond.eq (.elem (Term.field (n_tm 4) "java/lang/String" "value" "[B") (.int 4)) (.int 115) ∈ n_fl := by decide +kernel
theorem n_d4_5 : Cond.not (Cond.eq (n_tm 4) (n_tm 5)) ∈ n_fl := by decide +kernel
theorem n_q4 : Cond.eq (n_tm 4) (.string RX10 181) ∈ n_fl := by decide +kernel
theorem n_x5 : Cond.exactly (n_tm 5) "java/lang/String" ∈ n_fl := by decide +kernel
theorem n_c5 : Cond.eq (.field (n_tm 5) "java/lang/String" "coder" "B") (.int 0) ∈ n_fl := by decide +kernel
theorem n_v5 : Cond.arrayOf (Term.field (n_tm 5) "java/lang/String" "value" "[B") .byte ∈ n_fl := by decide +kernel
theorem n_n5 : Cond.eq (.length (Term.field (n_tm 5) "java/lang/String" "value" "[B")) (.int 5) ∈ n_fl := by decide +kernel
theorem n_e5_0 : Cond.eq (.elem (Term.field (n_tm 5) "java/lang/String" "value" "[B") (.int 0)) (.int 115) ∈ n_fl := by decide +kernel
theorem n_e5_1 : Cond.eq (.elem (Term.field (n_tm 5) "java/lang/String" "value" "[B") (.int 1)) (.int 104) ∈ n_fl := by decide +kernel
theorem n_e5_2 : Cond.eq (.elem (Term.field (n_tm 5) "java/lang/String" "value" "[B") (.int 2)) (.int 105) ∈ n_fl := by decide +kernel
theorem n_e5_3 : Cond.eq (.elem (Term.field (n_tm 5) "java/lang/String" "value" "[B") (.int 3)) (.int 110) ∈ n_fl := by decide +kernel
theorem n_e5_4 : Cond.eq (.elem (Term.field (n_tm 5) "java/lang/String" "value" "[B") (.int 4)) (.int 101) ∈ n_fl := by decide +kernel
theorem n_q5 : Cond.eq (n_tm 5) (.string RX10 182) ∈ n_fl := by decide +kernel
theorem n_ic : Cond.eq (.static "java/lang/String" "COMPACT_STRINGS" "Z") (.int 1) ∈ n_fl := by decide +kernel
theorem n_if : Cond.isRef (.static "jdk/internal/util/Preconditions" "SIOOBE_FORMATTER" "Ljava/util/function/BiFunction;") ∈ n_fl := by decide +kernel
theorem n_sr0 : Cond.stringRef RX7 116 "place" ∈ lw_tbl := j_c3 (i := 95) (by decide +kernel)
theorem n_sr1 : Cond.stringRef RX7 118 "clear" ∈ lw_tbl := j_c3 (i := 96) (by decide +kernel)
theorem n_sr2 : Cond.stringRef RX7 120 "looker" ∈ lw_tbl := j_c3 (i := 97) (by decide +kernel)
theorem n_sr3 : Cond.stringRef RX7 122 "likes" ∈ lw_tbl := j_c3 (i := 98) (by decide +kernel)
theorem n_sr4 : Cond.stringRef RX7 124 "comes" ∈ lw_tbl := j_c3 (i := 99) (by decide +kernel)
theorem n_sr5 : Cond.stringRef RX7 125 "shine" ∈ lw_tbl := j_c3 (i := 100) (by decide +kernel)
theorem n_sr6 : Cond.stringRef RX10 165 "place" ∈ lw_tbl := j_c6 (i := 137) (by decide +kernel)
theorem n_sr7 : Cond.stringRef RX10 175 "clear" ∈ lw_tbl := j_c6 (i := 148) (by decide +kernel)
theorem n_sr8 : Cond.stringRef RX10 177 "looker" ∈ lw_tbl := j_c6 (i := 149) (by decide +kernel)
theorem n_sr9 : Cond.stringRef RX10 179 "likes" ∈ lw_tbl := j_c6 (i := 150) (by decide +kernel)
theorem n_sr10 : Cond.stringRef RX10 181 "comes" ∈ lw_tbl := j_c6 (i := 151) (by decide +kernel)
theorem n_sr11 : Cond.stringRef RX10 182 "shine" ∈ lw_tbl := j_c6 (i := 152) (by decide +kernel)
theorem n_l1s : Cond.laysStatic "java/lang/String" "COMPACT_STRINGS" "Z" ∈ lw_tbl := j_c3 (i := 114) (by decide +kernel)
theorem n_l2s : Cond.laysStatic "jdk/internal/util/Preconditions" "SIOOBE_FORMATTER" "Ljava/util/function/BiFunction;" ∈ lw_tbl := j_c3 (i := 130) (by decide +kernel)
theorem n_i1s : Cond.initialized "java/lang/String" ∈ lw_tbl := j_c1 (i := 16) (by decide +kernel)
theorem n_i2s : Cond.initialized "jdk/internal/util/Preconditions" ∈ lw_tbl := j_c1 (i := 18) (by decide +kernel)
theorem n_isRef {A : Array Value} {s : State} {t : Term} (h : (Cond.isRef t).before A s = true) : t.eval A s none [] s = some .null ∨ ∃ a, t.eval A s none [] s = some (.ref a) := by
  cases hv : t.eval A s none [] s with
  | none => simp [Cond.before, Cond.holds, Cond.value, hv] at h
  | some w => cases w <;> simp_all [Cond.before, Cond.holds, Cond.value, Value.isRef]
theorem n_eqR {A : Array Value} {s : State} {t u : Term} {a : Nat} (h : (Cond.eq t u).before A s = true) (ht : t.eval A s none [] s = some (.ref a)) : u.eval A s none [] s = some (.ref a) := by
  have h1 : (Cond.eq t u).holds A s none s [] = true := h
  simp only [Cond.holds, Cond.value, ht] at h1
  cases hu : u.eval A s none [] s with
  | none => simp [hu] at h1
  | some x => cases x <;> simp [hu] at h1 ⊢ <;> exact h1.symm
def n_sa (a bK bV : Nat → Nat) (t0 : Nat) : Nat → Nat := fun i => if i < 1000 then a i else if i < 2000 then bK (i - 1000) else if i < 3000 then bV (i - 2000) else t0
set_option maxHeartbeats 4000000 in
theorem n_startS {A : Array Value} {s : State} {D : va_G} {k : Nat → ClassId} (hts0 : ∀ w ∈ lw_tbl, w.before A s = true) (hgv : (Jvm.Cond.and given_1 narrow_1).before A s = true) (hK : n_K D k s) : ∃ (bK bV : Nat → Nat) (t0 : Nat), ∀ (a : Nat → Nat) (Λ : j_L), Λ.1 ≤ 1000 → (∀ i, i < Λ.1 → s.heap.size ≤ a i) → j_K (n_G D k (n_sa a bK bV t0)) Λ s := by
  have hs : ∀ w ∈ n_fl, w.before A s = true := flat_of_before _ hgv
  have hA : ∀ a : Nat, a < s.heap.size → ¬ (fun q : Nat => s.heap.size ≤ q) a := fun a h => Nat.not_le.mpr h
  obtain ⟨bK, bV, hS, hE⟩ := vk_Sof (N := 6) (tm := n_tm) (len := j_len) (byt := j_byt) (A := fun q : Nat => s.heap.size ≤ q) (args := A) (s := s)
    (fun i hi => by rcases (show i = 0 ∨ i = 1 ∨ i = 2 ∨ i = 3 ∨ i = 4 ∨ i = 5 by omega) with rfl | rfl | rfl | rfl | rfl | rfl <;> decide)
    (fun i hi => by
      rcases (show i = 0 ∨ i = 1 ∨ i = 2 ∨ i = 3 ∨ i = 4 ∨ i = 5 by omega) with rfl | rfl | rfl | rfl | rfl | rfl
      · exact hs _ n_x0
      · exact hs _ n_x1
      · exact hs _ n_x2
      · exact hs _ n_x3
      · exact hs _ n_x4
      · exact hs _ n_x5)
    (fun i hi => by
      rcases (show i = 0 ∨ i = 1 ∨ i = 2 ∨ i = 3 ∨ i = 4 ∨ i = 5 by omega) with rfl | rfl | rfl | rfl | rfl | rfl
      · exact hs _ n_c0
      · exact hs _ n_c1
      · exact hs _ n_c2
      · exact hs _ n_c3
      · exact hs _ n_c4
      · exact hs _ n_c5)
    (fun i hi => by
      rcases (show i = 0 ∨ i = 1 ∨ i = 2 ∨ i = 3 ∨ i = 4 ∨ i = 5 by omega) with rfl | rfl | rfl | rfl | rfl | rfl
      · exact hs _ n_v0
      · exact hs _ n_v1
      · exact hs _ n_v2
      · exact hs _ n_v3
      · exact hs _ n_v4
      · exact hs _ n_v5)
    (fun i hi => by
      rcases (show i = 0 ∨ i = 1 ∨ i = 2 ∨ i = 3 ∨ i = 4 ∨ i = 5 by omega) with rfl | rfl | rfl | rfl | rfl | rfl
      · exact hs _ n_n0
      · exact hs _ n_n1
      · exact hs _ n_n2
      · exact hs _ n_n3
      · exact hs _ n_n4
      · exact hs _ n_n5)
    (fun i hi j hj => by
      rcases (show i = 0 ∨ i = 1 ∨ i = 2 ∨ i = 3 ∨ i = 4 ∨ i = 5 by omega) with rfl | rfl | rfl | rfl | rfl | rfl
      · have hj : j < 5 := hj
        rcases (show j = 0 ∨ j = 1 ∨ j = 2 ∨ j = 3 ∨ j = 4 by omega) with rfl | rfl | rfl | rfl | rfl
        · exact hs _ n_e0_0
        · exact hs _ n_e0_1
        · exact hs _ n_e0_2
        · exact hs _ n_e0_3
        · exact hs _ n_e0_4
      · have hj : j < 5 := hj
        rcases (show j = 0 ∨ j = 1 ∨ j = 2 ∨ j = 3 ∨ j = 4 by omega) with rfl | rfl | rfl | rfl | rfl
        · exact hs _ n_e1_0
        · exact hs _ n_e1_1
        · exact hs _ n_e1_2
        · exact hs _ n_e1_3
        · exact hs _ n_e1_4
      · have hj : j < 6 := hj
        rcases (show j = 0 ∨ j = 1 ∨ j = 2 ∨ j = 3 ∨ j = 4 ∨ j = 5 by omega) with rfl | rfl | rfl | rfl | rfl | rfl
        · exact hs _ n_e2_0
        · exact hs _ n_e2_1
        · exact hs _ n_e2_2
        · exact hs _ n_e2_3
        · exact hs _ n_e2_4
        · exact hs _ n_e2_5
      · have hj : j < 5 := hj
        rcases (show j = 0 ∨ j = 1 ∨ j = 2 ∨ j = 3 ∨ j = 4 by omega) with rfl | rfl | rfl | rfl | rfl
        · exact hs _ n_e3_0
        · exact hs _ n_e3_1
        · exact hs _ n_e3_2
        · exact hs _ n_e3_3
        · exact hs _ n_e3_4
      · have hj : j < 5 := hj
        rcases (show j = 0 ∨ j = 1 ∨ j = 2 ∨ j = 3 ∨ j = 4 by omega) with rfl | rfl | rfl | rfl | rfl
        · exact hs _ n_e4_0
        · exact hs _ n_e4_1
        · exact hs _ n_e4_2
        · exact hs _ n_e4_3
        · exact hs _ n_e4_4
      · have hj : j < 5 := hj
        rcases (show j = 0 ∨ j = 1 ∨ j = 2 ∨ j = 3 ∨ j = 4 by omega) with rfl | rfl | rfl | rfl | rfl
        · exact hs _ n_e5_0
        · exact hs _ n_e5_1
        · exact hs _ n_e5_2
        · exact hs _ n_e5_3
        · exact hs _ n_e5_4)
    (fun i j hi hj hij => by
      rcases (show i = 0 ∨ i = 1 ∨ i = 2 ∨ i = 3 ∨ i = 4 ∨ i = 5 by omega) with rfl | rfl | rfl | rfl | rfl | rfl
      · rcases (show j = 0 ∨ j = 1 ∨ j = 2 ∨ j = 3 ∨ j = 4 ∨ j = 5 by omega) with rfl | rfl | rfl | rfl | rfl | rfl
        · exact absurd rfl hij
        · exact Or.inl (hs _ n_d0_1)
        · exact Or.inl (hs _ n_d0_2)
        · exact Or.inl (hs _ n_d0_3)
        · exact Or.inl (hs _ n_d0_4)
        · exact Or.inl (hs _ n_d0_5)
      · rcases (show j = 0 ∨ j = 1 ∨ j = 2 ∨ j = 3 ∨ j = 4 ∨ j = 5 by omega) with rfl | rfl | rfl | rfl | rfl | rfl
        · exact Or.inr (hs _ n_d0_1)
        · exact absurd rfl hij
        · exact Or.inl (hs _ n_d1_2)
        · exact Or.inl (hs _ n_d1_3)
        · exact Or.inl (hs _ n_d1_4)
        · exact Or.inl (hs _ n_d1_5)
      · rcases (show j = 0 ∨ j = 1 ∨ j = 2 ∨ j = 3 ∨ j = 4 ∨ j = 5 by omega) with rfl | rfl | rfl | rfl | rfl | rfl
        · exact Or.inr (hs _ n_d0_2)
        · exact Or.inr (hs _ n_d1_2)
        · exact absurd rfl hij
        · exact Or.inl (hs _ n_d2_3)
        · exact Or.inl (hs _ n_d2_4)
        · exact Or.inl (hs _ n_d2_5)
      · rcases (show j = 0 ∨ j = 1 ∨ j = 2 ∨ j = 3 ∨ j = 4 ∨ j = 5 by omega) with rfl | rfl | rfl | rfl | rfl | rfl
        · exact Or.inr (hs _ n_d0_3)
        · exact Or.inr (hs _ n_d1_3)
        · exact Or.inr (hs _ n_d2_3)
        · exact absurd rfl hij
        · exact Or.inl (hs _ n_d3_4)
        · exact Or.inl (hs _ n_d3_5)
      · rcases (show j = 0 ∨ j = 1 ∨ j = 2 ∨ j = 3 ∨ j = 4 ∨ j = 5 by omega) with rfl | rfl | rfl | rfl | rfl | rfl
        · exact Or.inr (hs _ n_d0_4)
        · exact Or.inr (hs _ n_d1_4)
        · exact Or.inr (hs _ n_d2_4)
        · exact Or.inr (hs _ n_d3_4)
        · exact absurd rfl hij
        · exact Or.inl (hs _ n_d4_5)
      · rcases (show j = 0 ∨ j = 1 ∨ j = 2 ∨ j = 3 ∨ j = 4 ∨ j = 5 by omega) with rfl | rfl | rfl | rfl | rfl | rfl
        · exact Or.inr (hs _ n_d0_5)
        · exact Or.inr (hs _ n_d1_5)
        · exact Or.inr (hs _ n_d2_5)
        · exact Or.inr (hs _ n_d3_5)
        · exact Or.inr (hs _ n_d4_5)
        · exact absurd rfl hij) hA
  have hZ1 : va_Z "java/lang/String" "COMPACT_STRINGS" "Z" (.int 1) (fun q : Nat => s.heap.size ≤ q) s s.heap := va_Zof (hts0 _ n_l1s) (hts0 _ n_i1s) (va_eqi (hs _ n_ic)) hA
  obtain ⟨t0, hZ2⟩ : ∃ t0 : Nat, va_Z "jdk/internal/util/Preconditions" "SIOOBE_FORMATTER" "Ljava/util/function/BiFunction;" .null (fun q : Nat => s.heap.size ≤ q) s s.heap ∨ va_Z "jdk/internal/util/Preconditions" "SIOOBE_FORMATTER" "Ljava/util/function/BiFunction;" (.ref t0) (fun q : Nat => s.heap.size ≤ q) s s.heap := by
    rcases n_isRef (hs _ n_if) with h | ⟨t0, h⟩
    · exact ⟨0, Or.inl (va_Zof (hts0 _ n_l2s) (hts0 _ n_i2s) h hA)⟩
    · exact ⟨t0, Or.inr (va_Zof (hts0 _ n_l2s) (hts0 _ n_i2s) h hA)⟩
  have hm0 := n_eqR (hs _ n_q0) (hE 0 (by decide))
  have hm1 := n_eqR (hs _ n_q1) (hE 1 (by decide))
  have hm2 := n_eqR (hs _ n_q2) (hE 2 (by decide))
  have hm3 := n_eqR (hs _ n_q3) (hE 3 (by decide))
  have hm4 := n_eqR (hs _ n_q4) (hE 4 (by decide))
  have hm5 := n_eqR (hs _ n_q5) (hE 5 (by decide))
  refine ⟨bK, bV, t0, fun a Λ hΛ ha => ?_⟩
  have hAB : ∀ q, j_A (n_G D k (n_sa a bK bV t0)) Λ q → s.heap.size ≤ q := by
    rintro q ⟨i, hi, rfl⟩
    have e : j_ad (n_G D k (n_sa a bK bV t0)) i = a i := if_pos (by omega)
    rw [e]
    exact ha i hi
  refine ⟨hK.1, hK.2.1, ?_, ?_, hZ1.narrow hAB, hZ2.imp (fun z => z.narrow hAB) (fun z => z.narrow hAB)⟩
  · exact vk_S_congr (hS.narrow hAB) (fun i hi => by
      show n_sa a bK bV t0 (1000 + i) = bK i
      unfold n_sa
      rw [if_neg (by omega), if_pos (by omega), Nat.add_sub_cancel_left]) (fun i hi => by
      show n_sa a bK bV t0 (2000 + i) = bV i
      unfold n_sa
      rw [if_neg (by omega), if_neg (by omega), if_pos (by omega), Nat.add_sub_cancel_left])
  · have hq : ∀ q : String × Nat × String × Nat, q ∈ j_strs → ∀ c, q.2.2.2 = c → c < 1000 → (∀ a', a' = bK c → vk_R q.1 q.2.1 q.2.2.1 a' s) → vk_R q.1 q.2.1 q.2.2.1 (j_ad (n_G D k (n_sa a bK bV t0)) (1000 + q.2.2.2)) s := by
      intro q _ c hc hlt h
      refine h _ ?_
      show n_sa a bK bV t0 (1000 + q.2.2.2) = bK c
      unfold n_sa
      rw [hc, if_neg (by omega), if_pos (by omega), Nat.add_sub_cancel_left]
    intro q hm
    have h1 := hm
    simp only [j_strs, List.mem_cons, List.not_mem_nil, or_false] at h1
    rcases h1 with rfl | rfl | rfl | rfl | rfl | rfl | rfl | rfl | rfl | rfl | rfl | rfl
    · exact hq _ hm 0 rfl (by decide) (fun a' e => by rw [e]; exact vk_R.of (A := A) (hts0 _ n_sr0) (hE 0 (by decide)))
    · exact hq _ hm 1 rfl (by decide) (fun a' e => by rw [e]; exact vk_R.of (A := A) (hts0 _ n_sr1) (hE 1 (by decide)))
    · exact hq _ hm 2 rfl (by decide) (fun a' e => by rw [e]; exact vk_R.of (A := A) (hts0 _ n_sr2) (hE 2 (by decide)))
    · exact hq _ hm 3 rfl (by decide) (fun a' e => by rw [e]; exact vk_R.of (A := A) (hts0 _ n_sr3) (hE 3 (by decide)))
    · exact hq _ hm 4 rfl (by decide) (fun a' e => by rw [e]; exact vk_R.of (A := A) (hts0 _ n_sr4) (hE 4 (by decide)))
    · exact hq _ hm 5 rfl (by decide) (fun a' e => by rw [e]; exact vk_R.of (A := A) (hts0 _ n_sr5) (hE 5 (by decide)))
    · exact hq _ hm 0 rfl (by decide) (fun a' e => by rw [e]; exact vk_R.of (A := A) (hts0 _ n_sr6) (hm0))
    · exact hq _ hm 1 rfl (by decide) (fun a' e => by rw [e]; exact vk_R.of (A := A) (hts0 _ n_sr7) (hm1))
    · exact hq _ hm 2 rfl (by decide) (fun a' e => by rw [e]; exact vk_R.of (A := A) (hts0 _ n_sr8) (hm2))
    · exact hq _ hm 3 rfl (by decide) (fun a' e => by rw [e]; exact vk_R.of (A := A) (hts0 _ n_sr9) (hm3))
    · exact hq _ hm 4 rfl (by decide) (fun a' e => by rw [e]; exact vk_R.of (A := A) (hts0 _ n_sr10) (hm4))
    · exact hq _ hm 5 rfl (by decide) (fun a' e => by rw [e]; exact vk_R.of (A := A) (hts0 _ n_sr11) (hm5))
