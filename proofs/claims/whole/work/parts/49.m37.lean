/-! the class: an evening -/
abbrev AK (w : Nat → Nat → Int32) (n : Nat) (set : Int32) (k : Nat) : List Nat := ((OA w n).take k).filter (tb set)
def gdU (w : Nat → Nat → Int32) (O : List Nat) (u : Nat → Int32) (l : Nat) : Bool := (goT w O u l).any (fun p => w 1 p == w 3 l)
theorem bK_or1 {P : Nat → Bool} {n x : Nat} (hn : n ≤ 8) (hx : x < n) : bK P n ||| ((1 : Int32) <<< (nI x &&& 31)) = bK (fun l => P l || decide (l = x)) n := tb_ext (fun i hi => by
  rw [tb_or, tb_bK (by omega), tb_bK (by omega), tb_one (by omega)]
  by_cases e : i = x
  · subst e; rw [decide_eq_true hx]; simp
  · rw [decide_eq_false e]; simp)
theorem gl_if {T : List Nat} {w : Nat → Nat → Int32} {a : Nat} (hT : ∀ p ∈ T, p < 12) : (bl T &&& pwB w a = 0) = (¬ T.any (fun p => w 1 p == nI a) = true) := by
  have e1 : bl T &&& pwB w a = bK (fun p => decide (p ∈ T) && (w 1 p == nI a)) 12 := by
    rw [bl_bK hT]
    exact bK_and (fun p _ => rfl)
  rw [e1, bK_0, propext fP_none_iff, List.any_eq_true]
  refine propext ⟨fun h ⟨p, h1, h2⟩ => ?_, fun h j hj => ?_⟩
  · have := h p (hT p h1)
    rw [decide_eq_true h1, h2] at this
    cases this
  · by_cases z : j ∈ T
    · by_cases y : (w 1 j == nI a) = true
      · exact absurd ⟨j, z, y⟩ h
      · have : (w 1 j == nI a) = false := by simpa using y
        rw [this, Bool.and_false]
    · rw [decide_eq_false z, Bool.false_and]
theorem rest_rm {u : Nat → Int32} {T : List Nat} (hT : ∀ p ∈ T, p < 12) : lfB u &&& (bl T ^^^ (-1)) = lfB (rmL u T) := by
  unfold lfB
  rw [bK_but hT]
  refine bK_congr (fun p _ => ?_)
  by_cases z : p ∈ T
  · rw [show rmL u T p = -1 from if_pos z, decide_eq_true z]; simp
  · rw [show rmL u T p = u p from if_neg z, decide_eq_false z]; simp
/-- behind the first k lookers of all, in order of age -/
def RI (w : Nat → Nat → Int32) (n : Nat) (set : Int32) (u : Nat → Int32) (e k : Nat) (μ μ2 : j_M) : Prop := Fm (PE e) μ μ2 ∧ μ2.1 e 1 = lfB (goU w (AK w n set k) u) ∧ (∀ l, l ∈ (OA w n).take k → μ2.1 (e + 1) l = bl (goT w (AK w n set k) u l)) ∧ μ2.1 e 2 = bK (fun l => decide (l ∈ (OA w n).take k) && (tb set l && gdU w (AK w n set k) u l)) n ∧ μ2.1 e 3 = bK (fun l => decide (l ∈ (OA w n).take k) && (tb set l && (goT w (AK w n set k) u l).isEmpty)) n
theorem take_s {w : Nat → Nat → Int32} {n k x : Nat} (hk : k < n) (hx : (OA w n).getD k 0 = x) : (OA w n).take (k + 1) = (OA w n).take k ++ [x] := by
  have hl : k < (OA w n).length := by rw [OA_len]; exact hk
  rw [List.take_succ, List.getElem?_eq_getElem hl]
  rw [List.getD_eq_getElem?_getD, List.getElem?_eq_getElem hl] at hx
  rw [← hx]; rfl
theorem take_x {w : Nat → Nat → Int32} {n k x : Nat} (hk : k < n) (hx : (OA w n).getD k 0 = x) : x ∉ (OA w n).take k := by
  intro h
  have h1 : (OA w n).Nodup := ordO_nodup
  have hl : k < (OA w n).length := by rw [OA_len]; exact hk
  obtain ⟨j, hj, e⟩ := List.getElem_of_mem h
  rw [List.length_take] at hj
  rw [List.getElem_take] at e
  rw [List.getD_eq_getElem?_getD, List.getElem?_eq_getElem hl] at hx
  have := (List.nodup_iff_pairwise_ne.mp h1)
  exact List.pairwise_iff_getElem.mp this j k (by omega) hl (by omega) (e.trans hx.symm)
theorem RI_step {w : Nat → Nat → Int32} {n : Nat} {set : Int32} {u : Nat → Int32} {e k x : Nat} {μ μ2 m : j_M} {T : List Nat} (hn : n ≤ 8) (h : RI w n set u e k μ μ2) (hk : k < n) (hx : (OA w n).getD k 0 = x) (hT : T = if tb set x = true then tk (w 2 x) (w 3 x) (w 5 x) (goU w (AK w n set k) u) else [])
    (hF : Fm (PE e) μ2 m) (h1 : m.1 e 1 = lfB (goU w (AK w n set k) u) &&& (bl T ^^^ (-1))) (h2 : m.1 (e + 1) x = bl T) (h2' : ∀ l, l ≠ x → m.1 (e + 1) l = μ2.1 (e + 1) l) (h3 : m.1 e 2 = if T.any (fun p => w 1 p == w 3 x) = true then μ2.1 e 2 ||| ((1 : Int32) <<< (nI x &&& 31)) else μ2.1 e 2) (h4 : m.1 e 3 = if tb set x = true ∧ T.isEmpty = true then μ2.1 e 3 ||| ((1 : Int32) <<< (nI x &&& 31)) else μ2.1 e 3) : RI w n set u e (k + 1) μ m := by
  obtain ⟨r1, r2, r3, r4, r5⟩ := h
  have hxn : x < n := by rw [← hx]; exact OA_lt hk
  have hxk := take_x hk hx
  have hxA : x ∉ AK w n set k := fun z => hxk (List.mem_filter.mp z).1
  have hTl : ∀ p ∈ T, p < 12 := by
    intro p hp
    rw [hT] at hp
    split at hp
    · exact tk_lt hp
    · cases hp
  have hA : AK w n set (k + 1) = if tb set x = true then AK w n set k ++ [x] else AK w n set k := by
    unfold AK
    rw [take_s hk hx, List.filter_append]
    by_cases c : tb set x = true
    · rw [if_pos c, List.filter_cons_of_pos c]; rfl
    · rw [if_neg c, List.filter_cons_of_neg c]; simp
  have hU : goU w (AK w n set (k + 1)) u = rmL (goU w (AK w n set k) u) T := by
    rw [hA, hT]
    by_cases c : tb set x = true
    · rw [if_pos c, if_pos c, goU_app]
    · rw [if_neg c, if_neg c, rmL_nil]
  have hG : ∀ l, goT w (AK w n set (k + 1)) u l = if l = x then T else goT w (AK w n set k) u l := by
    intro l
    rw [hA, hT]
    by_cases c : tb set x = true
    · rw [if_pos c, if_pos c, goT_app hxA]
    · rw [if_neg c, if_neg c]
      by_cases el : l = x
      · subst el; rw [if_pos rfl, goT_nil hxA]
      · rw [if_neg el]
  have hm : ∀ l, l ∈ (OA w n).take (k + 1) ↔ l ∈ (OA w n).take k ∨ l = x := fun l => by
    rw [take_s hk hx, List.mem_append, List.mem_singleton]
  have hbits : ∀ (P Q : Nat → Bool) (c : Prop) [Decidable c], (∀ l, ¬ l = x → Q l = P l) → (Q x = true ↔ (tb set x = true ∧ c)) → (c → tb set x = true) → (if c then bK (fun l => decide (l ∈ (OA w n).take k) && P l) n ||| ((1 : Int32) <<< (nI x &&& 31)) else bK (fun l => decide (l ∈ (OA w n).take k) && P l) n) = bK (fun l => decide (l ∈ (OA w n).take (k + 1)) && Q l) n := by
    intro P Q c _ hPQ hQ hc
    by_cases cc : c
    · rw [if_pos cc, bK_or1 hn hxn]
      refine bK_congr (fun l hl => ?_)
      by_cases el : l = x
      · subst el
        rw [decide_eq_true rfl, decide_eq_true ((hm l).mpr (Or.inr rfl)), hQ.mpr ⟨hc cc, cc⟩]
        simp
      · rw [decide_eq_false el, Bool.or_false, hPQ l el]
        congr 1
        refine decide_eq_decide.mpr ?_
        rw [hm l]
        exact ⟨Or.inl, fun z => z.resolve_right el⟩
    · rw [if_neg cc]
      refine bK_congr (fun l hl => ?_)
      by_cases el : l = x
      · subst el
        have : Q l = false := Bool.eq_false_iff.mpr (fun z => cc (hQ.mp z).2)
        rw [this, Bool.and_false, decide_eq_false hxk, Bool.false_and]
      · rw [hPQ l el]
        congr 1
        refine decide_eq_decide.mpr ?_
        rw [hm l]
        exact ⟨Or.inl, fun z => z.resolve_right el⟩
  refine ⟨r1.tr hF, ?_, fun l hl => ?_, ?_, ?_⟩
  · rw [h1, hU, rest_rm hTl]
  · rw [hG l]
    by_cases el : l = x
    · subst el; rw [if_pos rfl, h2]
    · rw [if_neg el, h2' l el]
      exact r3 l (((hm l).mp hl).resolve_right el)
  · rw [h3, r4]
    refine hbits (fun l => tb set l && gdU w (AK w n set k) u l) (fun l => tb set l && gdU w (AK w n set (k + 1)) u l) _ (fun l el => ?_) ?_ ?_
    · show (tb set l && (goT w (AK w n set (k + 1)) u l).any _) = _
      rw [hG l, if_neg el]; rfl
    · show (tb set x && (goT w (AK w n set (k + 1)) u x).any _) = true ↔ _
      rw [hG x, if_pos rfl, Bool.and_eq_true]
    · intro z
      by_cases c : tb set x = true
      · exact c
      · rw [hT, if_neg c] at z; cases z
  · rw [h4, r5]
    refine hbits (fun l => tb set l && (goT w (AK w n set k) u l).isEmpty) (fun l => tb set l && (goT w (AK w n set (k + 1)) u l).isEmpty) _ (fun l el => ?_) ?_ (fun z => z.1)
    · show (tb set l && (goT w (AK w n set (k + 1)) u l).isEmpty) = _
      rw [hG l, if_neg el]
    · show (tb set x && (goT w (AK w n set (k + 1)) u x).isEmpty) = true ↔ _
      rw [hG x, if_pos rfl, Bool.and_eq_true]
      exact ⟨fun z => ⟨z.1, z⟩, fun z => z.2⟩
/-- an evening as it was seen: what is left, who took what, who is glad, who went away empty -/
def RN (w : Nat → Nat → Int32) (n : Nat) (set : Int32) (u : Nat → Int32) (e : Nat) (μ μ2 : j_M) : Prop := Fm (PE e) μ μ2 ∧ μ2.1 e 1 = lfB (goU w (OO w n set) u) ∧ (∀ l, l < n → μ2.1 (e + 1) l = bl (goT w (OO w n set) u l)) ∧ μ2.1 e 2 = bK (fun l => tb set l && gdU w (OO w n set) u l) n ∧ μ2.1 e 3 = bK (fun l => tb set l && (goT w (OO w n set) u l).isEmpty) n
theorem RI_end {w : Nat → Nat → Int32} {n : Nat} {set : Int32} {u : Nat → Int32} {e : Nat} {μ μ2 : j_M} (h : RI w n set u e n μ μ2) : RN w n set u e μ μ2 := by
  have ht : (OA w n).take n = OA w n := List.take_of_length_le (by rw [OA_len]; exact Nat.le_refl _)
  have hA : AK w n set n = OO w n set := by
    rw [OO_fl]
    show ((OA w n).take n).filter _ = _
    rw [ht]
  obtain ⟨r1, r2, r3, r4, r5⟩ := h
  rw [hA] at r2 r3 r4 r5
  rw [ht] at r3 r4 r5
  refine ⟨r1, r2, fun l hl => r3 l (OA_mem.mpr hl), r4.trans (bK_congr (fun l hl => ?_)), r5.trans (bK_congr (fun l hl => ?_))⟩
  · rw [decide_eq_true (OA_mem.mpr hl), Bool.true_and]
  · rw [decide_eq_true (OA_mem.mpr hl), Bool.true_and]
theorem RI_0 {w : Nat → Nat → Int32} {n : Nat} {set : Int32} {u : Nat → Int32} {e : Nat} {μ : j_M} : RI w n set u e 0 μ (j_pI (j_pI (j_pI μ e 1 (lfB u)) e 2 (nI 0)) e 3 (nI 0)) := by
  have hb : ∀ P : Nat → Bool, bK (fun l => decide (l ∈ (OA w n).take 0) && P l) n = nI 0 := fun P => by
    have key : ∀ m, bK (fun l => decide (l ∈ (OA w n).take 0) && P l) m = nI 0 := by
      intro m
      induction m with
      | zero => rfl
      | succ m ih => rw [bK_f (by simp), ih]
    exact key n
  refine ⟨((Fm.rf.pI (Or.inl rfl)).pI (Or.inl rfl)).pI (Or.inl rfl), ?_, (fun l hl => by cases hl), ?_, ?_⟩
  · rw [j_pI_off (by omega), j_pI_off (by omega), j_pI_at]; rfl
  · rw [j_pI_off (by omega), j_pI_at, hb]
  · rw [j_pI_at, hb]

set_option maxRecDepth 100000 in
theorem c_X2_run (e : Nat) (he : j_ob ΛX e 2) (b : Nat) (hb : j_ob ΛX b 4) (n : Nat) (w : Nat → Nat → Int32) (μ : j_M) (hS : SQ μ b w n) (hW : WI w n) (set : Int32) (u : Nat → Int32) (hu : UU w u) (hne : e + 2 ≤ b ∨ b + 21 ≤ e) : Ct yX2_run cX2_run 9 none 4 ΛX [.ref e, .ref b, .int set, .int ((lfB u))] μ (pV fun μ2 => RN w n set u e μ μ2) := by
  refine Ct.go (lo := [some (.ref e), some (.ref b), some (.int set), some (.int ((lfB u))), none, none, none, none, none]) (by decide) (Nat.le_of_ble_eq_true rfl) rfl rfl (fun X F => ?_)
  have F : Fx X cX2_run RX2 4 none ΛX := F
  have hn8 := hS.2
  refine v_aload_n (pc := 0) (i := 0) F dX2_run_0 rfl rfl ?_
  refine v_iload_n (pc := 1) (i := 3) F dX2_run_1 rfl rfl ?_
  refine v_put (pc := 2) F fX2_15 dX2_run_2 rfl rfl rfl he ?_
  refine v_aload_n (pc := 5) (i := 0) F dX2_run_5 rfl rfl ?_
  refine v_iconst (pc := 6) (v := nI 0) F dX2_run_6 (by decide) ?_
  refine v_put (pc := 7) F fX2_19 dX2_run_7 rfl rfl rfl he ?_
  refine v_aload_n (pc := 10) (i := 0) F dX2_run_10 rfl rfl ?_
  refine v_iconst (pc := 11) (v := nI 0) F dX2_run_11 (by decide) ?_
  refine v_put (pc := 12) F fX2_22 dX2_run_12 rfl rfl rfl he ?_
  refine v_iconst (pc := 15) (v := nI 0) F dX2_run_15 (by decide) ?_
  refine v_istore (pc := 16) (lo' := [some (.ref _), some (.ref _), some (.int _), some (.int _), some (.int _), _, _, _, _]) F dX2_run_16 rfl (Nat.le_of_ble_eq_true rfl) rfl ?_
  refine j_up n (fun k => ∀ μ' : j_M, (RI w n set u e k μ μ') → V X _ 18 [some (.ref e), some (.ref b), some (.int set), some (.int ((lfB u))), some (.int (nI k)), none, none, none, none] [] μ') (fun k hk ih μ' hI => ?_) 0 (Nat.zero_le _) ((j_pI (j_pI (j_pI μ e 1 ((lfB u))) e 2 (nI 0)) e 3 (nI 0))) (RI_0)
  refine v_iload (pc := 18) (i := 4) F dX2_run_18 rfl ?_
  have hS2 : SQ μ' b w n := SQ_F hS hI.1 (fun c j z => by omega)
  refine v_aload_n (pc := 20) (i := 1) F dX2_run_20 rfl rfl ?_
  refine v_getI (pc := 21) F fX2_25 dX2_run_21 rfl hb ?_
  refine v_topE (y := nI n) (hS2.1.cnt) ?_
  refine v_icmp_ge (pc := 24) (tgt := 162) F dX2_run_24 (by decide) (fun h24_1 => ?_) (fun h24_1 => ?_)
  · rw [nI_leI (by omega) (by omega)] at h24_1
    refine v_return (pc := 162) F dX2_run_162 ?_
    have e1 : k = n := by omega
    subst e1
    exact RI_end hI
  · rw [nI_leI (by omega) (by omega)] at h24_1
    refine v_aload_n (pc := 27) (i := 1) F dX2_run_27 rfl rfl ?_
    refine v_getR (pc := 28) (o := 4) F fX2_30 dX2_run_28 rfl hb ?_
    refine v_topR (y := b + 4) rfl ?_
    refine v_iload (pc := 31) (i := 4) F dX2_run_31 rfl ?_
    obtain ⟨x, hx⟩ : ∃ x, (OA w n).getD k 0 = x := ⟨_, rfl⟩
    have hxn : x < n := by rw [← hx]; exact OA_lt (by omega)
    obtain ⟨a, ha8, haa⟩ := hW.a hxn
    refine v_ialdN (pc := 33) (k0 := k) F dX2_run_33 (lx4_3 hb) (rfl) (by omega) (by decide) ?_
    refine v_topE (y := nI x) ((hS2.1.ord k (by omega)).trans (by rw [hx])) ?_
    refine v_istore (pc := 34) (lo' := [some (.ref _), some (.ref _), some (.int _), some (.int _), some (.int _), some (.int _), _, _, _]) F dX2_run_34 rfl (Nat.le_of_ble_eq_true rfl) rfl ?_
    refine v_aload_n (pc := 36) (i := 1) F dX2_run_36 rfl rfl ?_
    refine v_getR (pc := 37) (o := 3) F fX2_33 dX2_run_37 rfl hb ?_
    refine v_topR (y := b + 3) rfl ?_
    refine v_iload (pc := 40) (i := 5) F dX2_run_40 rfl ?_
    refine v_aald14N (pc := 42) (k0 := x) (x := b + 5 + 2 * x) F dX2_run_42 (lx4_2 hb) (rfl) (by omega) (by decide) (by simp only [j_ro]; first | rfl | omega | (split <;> omega)) ?_
    have ho2 : j_ob ΛX (b + 5 + 2 * x) 3 := by
      have q := lxL (lx4_2 hb) (j := x) (by omega)
      simp only [j_ro] at q
      exact (by first | exact q | (rw [show b + 5 + 2 * x = _ from (by first | rfl | omega)]; exact q))
    refine v_astore (pc := 43) (lo' := [some (.ref _), some (.ref _), some (.int _), some (.int _), some (.int _), some (.int _), some (.ref _), _, _]) F dX2_run_43 rfl (Nat.le_of_ble_eq_true rfl) rfl ?_
    refine v_iload_n (pc := 45) (i := 2) F dX2_run_45 rfl rfl ?_
    refine v_iload (pc := 46) (i := 5) F dX2_run_46 rfl ?_
    refine v_ishr (pc := 48) F dX2_run_48 ?_
    refine v_iconst (pc := 49) (v := nI 1) F dX2_run_49 (by decide) ?_
    refine v_iand (pc := 50) F dX2_run_50 ?_
    refine v_if_eq (pc := 51) (tgt := 58) F dX2_run_51 (by decide) (fun hin => ?_) (fun hin => ?_)
    · rw [tb_if (by omega)] at hin
      refine v_iconst (pc := 58) (v := nI 0) F dX2_run_58 (by decide) ?_
      refine v_istore (pc := 59) (lo' := [some (.ref _), some (.ref _), some (.int _), some (.int _), some (.int _), some (.int _), some (.ref _), some (.int _), _]) F dX2_run_59 rfl (Nat.le_of_ble_eq_true rfl) rfl ?_
      refine v_iload (pc := 61) (i := 7) F dX2_run_61 rfl ?_
      refine v_if_eq (pc := 63) (tgt := 79) F dX2_run_63 (by decide) (fun h63_4 => ?_) (fun h63_4 => ?_)
      · rw [j_eq0 (by omega)] at h63_4
        refine v_iconst (pc := 79) (v := nI 0) F dX2_run_79 (by decide) ?_
        refine v_topE (y := (bl [])) (rfl) ?_
        refine v_istore (pc := 80) (lo' := [some (.ref _), some (.ref _), some (.int _), some (.int _), some (.int _), some (.int _), some (.ref _), some (.int _), some (.int _)]) F dX2_run_80 rfl (Nat.le_of_ble_eq_true rfl) rfl ?_
        refine v_aload_n (pc := 82) (i := 0) F dX2_run_82 rfl rfl ?_
        refine v_getR (pc := 83) (o := 1) F fX2_9 dX2_run_83 rfl he ?_
        refine v_topR (y := e + 1) rfl ?_
        refine v_iload (pc := 86) (i := 5) F dX2_run_86 rfl ?_
        refine v_iload (pc := 88) (i := 8) F dX2_run_88 rfl ?_
        refine v_iastN (pc := 90) (k0 := x) F dX2_run_90 (lx2_0 he) (rfl) (by omega) (by decide) ?_
        refine v_aload_n (pc := 91) (i := 0) F dX2_run_91 rfl rfl ?_
        refine v_dup (pc := 92) F dX2_run_92 rfl ?_
        refine v_getI (pc := 93) F fX2_15 dX2_run_93 rfl he ?_
        refine v_topE (y := (lfB (goU w (AK w n set k) u))) ((j_pI_off (by omega)).trans (hI.2.1)) ?_
        refine v_iload (pc := 96) (i := 8) F dX2_run_96 rfl ?_
        refine v_iconst (pc := 98) (v := (-1)) F dX2_run_98 (by decide) ?_
        refine v_ixor (pc := 99) F dX2_run_99 ?_
        refine v_iand (pc := 100) F dX2_run_100 ?_
        refine v_put (pc := 101) F fX2_15 dX2_run_101 rfl rfl rfl he ?_
        refine v_iload (pc := 104) (i := 8) F dX2_run_104 rfl ?_
        refine v_aload_n (pc := 106) (i := 1) F dX2_run_106 rfl rfl ?_
        refine v_getR (pc := 107) (o := 2) F fX2_41 dX2_run_107 rfl hb ?_
        refine v_topR (y := b + 2) rfl ?_
        refine v_aload (pc := 110) (i := 6) F dX2_run_110 rfl ?_
        refine v_getI (pc := 112) F fX2_44 dX2_run_112 rfl ho2 ?_
        refine v_topE (y := nI a) ((j_pI_off (by omega)).trans ((j_pI_off (by omega)).trans ((hS2.1.lk x hxn).a.trans haa))) ?_
        refine v_ialdN (pc := 115) (k0 := a) F dX2_run_115 (lx4_1 hb) (rfl) (by omega) (by decide) ?_
        refine v_topE (y := (pwB w a)) ((j_pI_off (by omega)).trans ((j_pI_off (by omega)).trans (hS2.1.plw a (by omega)))) ?_
        refine v_iand (pc := 116) F dX2_run_116 ?_
        refine v_if_eq (pc := 117) (tgt := 133) F dX2_run_117 (by decide) (fun hg => ?_) (fun hg => ?_)
        · rw [gl_if (T := []) (by first | exact fun p hp => tk_lt hp | exact fun p hp => by cases hp)] at hg
          refine v_iload (pc := 133) (i := 7) F dX2_run_133 rfl ?_
          refine v_if_eq (pc := 135) (tgt := 156) F dX2_run_135 (by decide) (fun h135_6 => ?_) (fun h135_6 => ?_)
          · rw [j_eq0 (by omega)] at h135_6
            refine v_iinc (pc := 156) (i := 4) (v := nI (k + 1)) (lo' := [some (.ref _), some (.ref _), some (.int _), some (.int _), some (.int _), some (.int _), some (.ref _), some (.int _), some (.int _)]) F dX2_run_156 rfl (j_inc _) rfl rfl ?_
            refine v_goto (pc := 159) (tgt := 18) F dX2_run_159 (by decide) ?_
            refine v_drop (i := 5) (lo' := [some (.ref _), some (.ref _), some (.int _), some (.int _), some (.int _), _, some (.ref _), some (.int _), some (.int _)]) rfl ?_
            refine v_drop (i := 6) (lo' := [some (.ref _), some (.ref _), some (.int _), some (.int _), some (.int _), _, _, some (.int _), some (.int _)]) rfl ?_
            refine v_drop (i := 7) (lo' := [some (.ref _), some (.ref _), some (.int _), some (.int _), some (.int _), _, _, _, some (.int _)]) rfl ?_
            refine v_drop (i := 8) (lo' := [some (.ref _), some (.ref _), some (.int _), some (.int _), some (.int _), _, _, _, _]) rfl ?_
            have hTe : [] = if tb set x = true then (tk (w 2 x) (w 3 x) (w 5 x) (goU w (AK w n set k) u)) else [] := (if_neg hin).symm
            refine ih (by omega) _ (RI_step hn8 hI (by omega) hx hTe ?_ ?_ ?_ ?_ ?_ ?_)
            · repeat' first | exact Fm.rf | refine Fm.pI ?_ (by omega)
            · simp [j_pI]
            · simp [j_pI]
            · intro l hl; simp [j_pI, hl]
            · rw [← haa] at hg; rw [if_neg hg]
              all_goals simp [j_pI, j_n1]
            · rw [if_neg (fun z => hin z.1)]
              all_goals simp [j_pI, j_n1]
          · rw [j_eq0 (by omega)] at h135_6
            exact absurd h135_6 (by decide)
        · rw [gl_if (T := []) (by first | exact fun p hp => tk_lt hp | exact fun p hp => by cases hp)] at hg
          exact absurd (Classical.not_not.mp hg) (by simp)
      · rw [j_eq0 (by omega)] at h63_4
        exact absurd h63_4 (by decide)
    · rw [tb_if (by omega)] at hin
      rw [Classical.not_not] at hin
      refine v_iconst (pc := 54) (v := nI 1) F dX2_run_54 (by decide) ?_
      refine v_goto (pc := 55) (tgt := 59) F dX2_run_55 (by decide) ?_
      refine v_istore (pc := 59) (lo' := [some (.ref _), some (.ref _), some (.int _), some (.int _), some (.int _), some (.int _), some (.ref _), some (.int _), _]) F dX2_run_59 rfl (Nat.le_of_ble_eq_true rfl) rfl ?_
      refine v_iload (pc := 61) (i := 7) F dX2_run_61 rfl ?_
      refine v_if_eq (pc := 63) (tgt := 79) F dX2_run_63 (by decide) (fun h63_7 => ?_) (fun h63_7 => ?_)
      · rw [j_eq0 (by omega)] at h63_7
        exact absurd h63_7 (by decide)
      · rw [j_eq0 (by omega)] at h63_7
        refine v_aload_n (pc := 66) (i := 1) F dX2_run_66 rfl rfl ?_
        refine v_aload (pc := 67) (i := 6) F dX2_run_67 rfl ?_
        refine v_aload_n (pc := 69) (i := 0) F dX2_run_69 rfl rfl ?_
        refine v_getI (pc := 70) F fX2_15 dX2_run_70 rfl he ?_
        refine v_topE (y := (lfB (goU w (AK w n set k) u))) (hI.2.1) ?_
        refine v_callVI (pc := 73) (As := [_, _]) (rest := []) (c := 4) F mX4_takes kX2_37 im_X4_takes se_X4_takes dX2_run_73 rfl rfl (by decide) (c_X4_takes b hb n w _ (hS2) x ho2 hW (by omega) ((goU w (AK w n set k) u)) ((UU.go hu))) (by decide) rfl rfl (Nat.le_of_ble_eq_true rfl) hb (fun x8 μ8 hp8 => ?_)
        rw [hp8.1, hp8.2]
        refine v_goto (pc := 76) (tgt := 80) F dX2_run_76 (by decide) ?_
        refine v_istore (pc := 80) (lo' := [some (.ref _), some (.ref _), some (.int _), some (.int _), some (.int _), some (.int _), some (.ref _), some (.int _), some (.int _)]) F dX2_run_80 rfl (Nat.le_of_ble_eq_true rfl) rfl ?_
        refine v_aload_n (pc := 82) (i := 0) F dX2_run_82 rfl rfl ?_
        refine v_getR (pc := 83) (o := 1) F fX2_9 dX2_run_83 rfl he ?_
        refine v_topR (y := e + 1) rfl ?_
        refine v_iload (pc := 86) (i := 5) F dX2_run_86 rfl ?_
        refine v_iload (pc := 88) (i := 8) F dX2_run_88 rfl ?_
        refine v_iastN (pc := 90) (k0 := x) F dX2_run_90 (lx2_0 he) (rfl) (by omega) (by decide) ?_
        refine v_aload_n (pc := 91) (i := 0) F dX2_run_91 rfl rfl ?_
        refine v_dup (pc := 92) F dX2_run_92 rfl ?_
        refine v_getI (pc := 93) F fX2_15 dX2_run_93 rfl he ?_
        refine v_topE (y := (lfB (goU w (AK w n set k) u))) ((j_pI_off (by omega)).trans (hI.2.1)) ?_
        refine v_iload (pc := 96) (i := 8) F dX2_run_96 rfl ?_
        refine v_iconst (pc := 98) (v := (-1)) F dX2_run_98 (by decide) ?_
        refine v_ixor (pc := 99) F dX2_run_99 ?_
        refine v_iand (pc := 100) F dX2_run_100 ?_
        refine v_put (pc := 101) F fX2_15 dX2_run_101 rfl rfl rfl he ?_
        refine v_iload (pc := 104) (i := 8) F dX2_run_104 rfl ?_
        refine v_aload_n (pc := 106) (i := 1) F dX2_run_106 rfl rfl ?_
        refine v_getR (pc := 107) (o := 2) F fX2_41 dX2_run_107 rfl hb ?_
        refine v_topR (y := b + 2) rfl ?_
        refine v_aload (pc := 110) (i := 6) F dX2_run_110 rfl ?_
        refine v_getI (pc := 112) F fX2_44 dX2_run_112 rfl ho2 ?_
        refine v_topE (y := nI a) ((j_pI_off (by omega)).trans ((j_pI_off (by omega)).trans ((hS2.1.lk x hxn).a.trans haa))) ?_
        refine v_ialdN (pc := 115) (k0 := a) F dX2_run_115 (lx4_1 hb) (rfl) (by omega) (by decide) ?_
        refine v_topE (y := (pwB w a)) ((j_pI_off (by omega)).trans ((j_pI_off (by omega)).trans (hS2.1.plw a (by omega)))) ?_
        refine v_iand (pc := 116) F dX2_run_116 ?_
        refine v_if_eq (pc := 117) (tgt := 133) F dX2_run_117 (by decide) (fun hg => ?_) (fun hg => ?_)
        · rw [gl_if (T := (tk (w 2 x) (w 3 x) (w 5 x) (goU w (AK w n set k) u))) (by first | exact fun p hp => tk_lt hp | exact fun p hp => by cases hp)] at hg
          refine v_iload (pc := 133) (i := 7) F dX2_run_133 rfl ?_
          refine v_if_eq (pc := 135) (tgt := 156) F dX2_run_135 (by decide) (fun h135_10 => ?_) (fun h135_10 => ?_)
          · rw [j_eq0 (by omega)] at h135_10
            exact absurd h135_10 (by decide)
          · rw [j_eq0 (by omega)] at h135_10
            refine v_iload (pc := 138) (i := 8) F dX2_run_138 rfl ?_
            refine v_if_ne (pc := 140) (tgt := 156) F dX2_run_140 (by decide) (fun hem => ?_) (fun hem => ?_)
            · rw [bl_0 (fun p hp => tk_lt hp)] at hem
              refine v_iinc (pc := 156) (i := 4) (v := nI (k + 1)) (lo' := [some (.ref _), some (.ref _), some (.int _), some (.int _), some (.int _), some (.int _), some (.ref _), some (.int _), some (.int _)]) F dX2_run_156 rfl (j_inc _) rfl rfl ?_
              refine v_goto (pc := 159) (tgt := 18) F dX2_run_159 (by decide) ?_
              refine v_drop (i := 5) (lo' := [some (.ref _), some (.ref _), some (.int _), some (.int _), some (.int _), _, some (.ref _), some (.int _), some (.int _)]) rfl ?_
              refine v_drop (i := 6) (lo' := [some (.ref _), some (.ref _), some (.int _), some (.int _), some (.int _), _, _, some (.int _), some (.int _)]) rfl ?_
              refine v_drop (i := 7) (lo' := [some (.ref _), some (.ref _), some (.int _), some (.int _), some (.int _), _, _, _, some (.int _)]) rfl ?_
              refine v_drop (i := 8) (lo' := [some (.ref _), some (.ref _), some (.int _), some (.int _), some (.int _), _, _, _, _]) rfl ?_
              have hTe : (tk (w 2 x) (w 3 x) (w 5 x) (goU w (AK w n set k) u)) = if tb set x = true then (tk (w 2 x) (w 3 x) (w 5 x) (goU w (AK w n set k) u)) else [] := (if_pos hin).symm
              refine ih (by omega) _ (RI_step hn8 hI (by omega) hx hTe ?_ ?_ ?_ ?_ ?_ ?_)
              · repeat' first | exact Fm.rf | refine Fm.pI ?_ (by omega)
              · simp [j_pI]
              · simp [j_pI]
              · intro l hl; simp [j_pI, hl]
              · rw [← haa] at hg; rw [if_neg hg]
                all_goals simp [j_pI, j_n1]
              · rw [if_neg (fun z => hem z.2)]
                all_goals simp [j_pI, j_n1]
            · rw [bl_0 (fun p hp => tk_lt hp)] at hem
              refine v_aload_n (pc := 143) (i := 0) F dX2_run_143 rfl rfl ?_
              refine v_dup (pc := 144) F dX2_run_144 rfl ?_
              refine v_getI (pc := 145) F fX2_22 dX2_run_145 rfl he ?_
              refine v_iconst (pc := 148) (v := nI 1) F dX2_run_148 (by decide) ?_
              refine v_iload (pc := 149) (i := 5) F dX2_run_149 rfl ?_
              refine v_ishl (pc := 151) F dX2_run_151 ?_
              refine v_ior (pc := 152) F dX2_run_152 ?_
              refine v_put (pc := 153) F fX2_22 dX2_run_153 rfl rfl rfl he ?_
              refine v_iinc (pc := 156) (i := 4) (v := nI (k + 1)) (lo' := [some (.ref _), some (.ref _), some (.int _), some (.int _), some (.int _), some (.int _), some (.ref _), some (.int _), some (.int _)]) F dX2_run_156 rfl (j_inc _) rfl rfl ?_
              refine v_goto (pc := 159) (tgt := 18) F dX2_run_159 (by decide) ?_
              refine v_drop (i := 5) (lo' := [some (.ref _), some (.ref _), some (.int _), some (.int _), some (.int _), _, some (.ref _), some (.int _), some (.int _)]) rfl ?_
              refine v_drop (i := 6) (lo' := [some (.ref _), some (.ref _), some (.int _), some (.int _), some (.int _), _, _, some (.int _), some (.int _)]) rfl ?_
              refine v_drop (i := 7) (lo' := [some (.ref _), some (.ref _), some (.int _), some (.int _), some (.int _), _, _, _, some (.int _)]) rfl ?_
              refine v_drop (i := 8) (lo' := [some (.ref _), some (.ref _), some (.int _), some (.int _), some (.int _), _, _, _, _]) rfl ?_
              have hTe : (tk (w 2 x) (w 3 x) (w 5 x) (goU w (AK w n set k) u)) = if tb set x = true then (tk (w 2 x) (w 3 x) (w 5 x) (goU w (AK w n set k) u)) else [] := (if_pos hin).symm
              refine ih (by omega) _ (RI_step hn8 hI (by omega) hx hTe ?_ ?_ ?_ ?_ ?_ ?_)
              · repeat' first | exact Fm.rf | refine Fm.pI ?_ (by omega)
              · simp [j_pI]
              · simp [j_pI]
              · intro l hl; simp [j_pI, hl]
              · rw [← haa] at hg; rw [if_neg hg]
                all_goals simp [j_pI, j_n1]
              · rw [if_pos ⟨hin, hem⟩]
                all_goals simp [j_pI, j_n1]
        · rw [gl_if (T := (tk (w 2 x) (w 3 x) (w 5 x) (goU w (AK w n set k) u))) (by first | exact fun p hp => tk_lt hp | exact fun p hp => by cases hp)] at hg
          rw [Classical.not_not] at hg
          refine v_aload_n (pc := 120) (i := 0) F dX2_run_120 rfl rfl ?_
          refine v_dup (pc := 121) F dX2_run_121 rfl ?_
          refine v_getI (pc := 122) F fX2_19 dX2_run_122 rfl he ?_
          refine v_iconst (pc := 125) (v := nI 1) F dX2_run_125 (by decide) ?_
          refine v_iload (pc := 126) (i := 5) F dX2_run_126 rfl ?_
          refine v_ishl (pc := 128) F dX2_run_128 ?_
          refine v_ior (pc := 129) F dX2_run_129 ?_
          refine v_put (pc := 130) F fX2_19 dX2_run_130 rfl rfl rfl he ?_
          refine v_iload (pc := 133) (i := 7) F dX2_run_133 rfl ?_
          refine v_if_eq (pc := 135) (tgt := 156) F dX2_run_135 (by decide) (fun h135_12 => ?_) (fun h135_12 => ?_)
          · rw [j_eq0 (by omega)] at h135_12
            exact absurd h135_12 (by decide)
          · rw [j_eq0 (by omega)] at h135_12
            refine v_iload (pc := 138) (i := 8) F dX2_run_138 rfl ?_
            refine v_if_ne (pc := 140) (tgt := 156) F dX2_run_140 (by decide) (fun hem => ?_) (fun hem => ?_)
            · rw [bl_0 (fun p hp => tk_lt hp)] at hem
              refine v_iinc (pc := 156) (i := 4) (v := nI (k + 1)) (lo' := [some (.ref _), some (.ref _), some (.int _), some (.int _), some (.int _), some (.int _), some (.ref _), some (.int _), some (.int _)]) F dX2_run_156 rfl (j_inc _) rfl rfl ?_
              refine v_goto (pc := 159) (tgt := 18) F dX2_run_159 (by decide) ?_
              refine v_drop (i := 5) (lo' := [some (.ref _), some (.ref _), some (.int _), some (.int _), some (.int _), _, some (.ref _), some (.int _), some (.int _)]) rfl ?_
              refine v_drop (i := 6) (lo' := [some (.ref _), some (.ref _), some (.int _), some (.int _), some (.int _), _, _, some (.int _), some (.int _)]) rfl ?_
              refine v_drop (i := 7) (lo' := [some (.ref _), some (.ref _), some (.int _), some (.int _), some (.int _), _, _, _, some (.int _)]) rfl ?_
              refine v_drop (i := 8) (lo' := [some (.ref _), some (.ref _), some (.int _), some (.int _), some (.int _), _, _, _, _]) rfl ?_
              have hTe : (tk (w 2 x) (w 3 x) (w 5 x) (goU w (AK w n set k) u)) = if tb set x = true then (tk (w 2 x) (w 3 x) (w 5 x) (goU w (AK w n set k) u)) else [] := (if_pos hin).symm
              refine ih (by omega) _ (RI_step hn8 hI (by omega) hx hTe ?_ ?_ ?_ ?_ ?_ ?_)
              · repeat' first | exact Fm.rf | refine Fm.pI ?_ (by omega)
              · simp [j_pI]
              · simp [j_pI]
              · intro l hl; simp [j_pI, hl]
              · rw [← haa] at hg; rw [if_pos hg]
                all_goals simp [j_pI, j_n1]
              · rw [if_neg (fun z => hem z.2)]
                all_goals simp [j_pI, j_n1]
            · rw [bl_0 (fun p hp => tk_lt hp)] at hem
              refine v_aload_n (pc := 143) (i := 0) F dX2_run_143 rfl rfl ?_
              refine v_dup (pc := 144) F dX2_run_144 rfl ?_
              refine v_getI (pc := 145) F fX2_22 dX2_run_145 rfl he ?_
              refine v_iconst (pc := 148) (v := nI 1) F dX2_run_148 (by decide) ?_
              refine v_iload (pc := 149) (i := 5) F dX2_run_149 rfl ?_
              refine v_ishl (pc := 151) F dX2_run_151 ?_
              refine v_ior (pc := 152) F dX2_run_152 ?_
              refine v_put (pc := 153) F fX2_22 dX2_run_153 rfl rfl rfl he ?_
              refine v_iinc (pc := 156) (i := 4) (v := nI (k + 1)) (lo' := [some (.ref _), some (.ref _), some (.int _), some (.int _), some (.int _), some (.int _), some (.ref _), some (.int _), some (.int _)]) F dX2_run_156 rfl (j_inc _) rfl rfl ?_
              refine v_goto (pc := 159) (tgt := 18) F dX2_run_159 (by decide) ?_
              refine v_drop (i := 5) (lo' := [some (.ref _), some (.ref _), some (.int _), some (.int _), some (.int _), _, some (.ref _), some (.int _), some (.int _)]) rfl ?_
              refine v_drop (i := 6) (lo' := [some (.ref _), some (.ref _), some (.int _), some (.int _), some (.int _), _, _, some (.int _), some (.int _)]) rfl ?_
              refine v_drop (i := 7) (lo' := [some (.ref _), some (.ref _), some (.int _), some (.int _), some (.int _), _, _, _, some (.int _)]) rfl ?_
              refine v_drop (i := 8) (lo' := [some (.ref _), some (.ref _), some (.int _), some (.int _), some (.int _), _, _, _, _]) rfl ?_
              have hTe : (tk (w 2 x) (w 3 x) (w 5 x) (goU w (AK w n set k) u)) = if tb set x = true then (tk (w 2 x) (w 3 x) (w 5 x) (goU w (AK w n set k) u)) else [] := (if_pos hin).symm
              refine ih (by omega) _ (RI_step hn8 hI (by omega) hx hTe ?_ ?_ ?_ ?_ ?_ ?_)
              · repeat' first | exact Fm.rf | refine Fm.pI ?_ (by omega)
              · simp [j_pI]
              · simp [j_pI]
              · intro l hl; simp [j_pI, hl]
              · rw [← haa] at hg; rw [if_pos hg]
                all_goals simp [j_pI, j_n1]
              · rw [if_pos ⟨hin, hem⟩]
                all_goals simp [j_pI, j_n1]
