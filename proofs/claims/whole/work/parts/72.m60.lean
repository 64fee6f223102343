/-! the class: setting out -/

set_option maxRecDepth 100000 in
theorem c_X8_findEmptyPlaces (x : Nat) (hx : j_ob ΛX x 8) (n : Nat) (w : Nat → Nat → Int32) (μ : j_M) (hS : SQ μ (x + 1) w n)  : Ct yX8_findEmptyPlaces cX8_findEmptyPlaces 3 (some .int) 1 ΛX [.ref x] μ (pI fun r μ2 => ∃ R, r = nI R ∧ R ≤ 3 ∧ R ≤ (poE w).length ∧ (R < 3 → R = (poE w).length) ∧ (∀ i, i < R → μ2.1 (x + 24) i = nI ((poE w).getD i 0)) ∧ Fm (fun c _ => c = x + 24) μ μ2) := by
  refine Ct.go (lo := [some (.ref x), none, none]) (by decide) (Nat.le_of_ble_eq_true rfl) rfl rfl (fun X F => ?_)
  have F : Fx X cX8_findEmptyPlaces RX8 1 (some .int) ΛX := F
  have hn8 := hS.2
  refine v_iconst (pc := 0) (v := nI 0) F dX8_findEmptyPlaces_0 (by decide) ?_
  refine v_istore_n (pc := 1) (lo' := [some (.ref _), some (.int _), _]) F dX8_findEmptyPlaces_1 rfl rfl (Nat.le_of_ble_eq_true rfl) rfl ?_
  refine v_iconst (pc := 2) (v := nI 0) F dX8_findEmptyPlaces_2 (by decide) ?_
  refine v_istore_n (pc := 3) (lo' := [some (.ref _), some (.int _), some (.int _)]) F dX8_findEmptyPlaces_3 rfl rfl (Nat.le_of_ble_eq_true rfl) rfl ?_
  refine j_up 12 (fun k => ∀ μ' : j_M, (Fm (fun c _ => c = x + 24) μ μ' ∧ (EK w k).length ≤ 3 ∧ ∀ i, i < (EK w k).length → μ'.1 (x + 24) i = nI ((EK w k).getD i 0)) → V X _ 4 [some (.ref x), some (.int (nI ((EK w k).length))), some (.int (nI k))] [] μ') (fun k hk ih μ' hI => ?_) 0 (Nat.zero_le _) μ (⟨Fm.rf, Nat.zero_le _, fun i hi => absurd hi (Nat.not_lt_zero _)⟩)
  refine v_iload_n (pc := 4) (i := 2) F dX8_findEmptyPlaces_4 rfl rfl ?_
  refine v_bipush (pc := 5) (v := nI 12) F dX8_findEmptyPlaces_5 (by decide) ?_
  refine v_icmp_ge (pc := 7) (tgt := 44) F dX8_findEmptyPlaces_7 (by decide) (fun h7 => ?_) (fun h7 => ?_)
  · rw [nI_leI (by omega) (by omega)] at h7
    refine v_iload_n (pc := 44) (i := 1) F dX8_findEmptyPlaces_44 rfl rfl ?_
    refine v_ireturn (pc := 45) F dX8_findEmptyPlaces_45 (rfl) ?_
    have e : k = 12 := by omega
    subst e
    exact ⟨_, rfl, hI.2.1, Nat.le_refl _, fun _ => rfl, hI.2.2, hI.1⟩
  · rw [nI_leI (by omega) (by omega)] at h7
    refine v_iload_n (pc := 10) (i := 1) F dX8_findEmptyPlaces_10 rfl rfl ?_
    refine v_iconst (pc := 11) (v := nI 3) F dX8_findEmptyPlaces_11 (by decide) ?_
    have hS2 : SQ μ' (x + 1) w n := SQ_F hS hI.1 (fun c j z => by omega)
    refine v_icmp_ge (pc := 12) (tgt := 44) F dX8_findEmptyPlaces_12 (by decide) (fun h12 => ?_) (fun h12 => ?_)
    · rw [nI_leI (by omega) (by omega)] at h12
      refine v_iload_n (pc := 44) (i := 1) F dX8_findEmptyPlaces_44 rfl rfl ?_
      refine v_ireturn (pc := 45) F dX8_findEmptyPlaces_45 (rfl) ?_
      have p := EK_pre (w := w) (k := k) (by omega)
      exact ⟨_, rfl, hI.2.1, p.1, fun z => by omega, fun i hi => (hI.2.2 i hi).trans (by rw [p.2 i hi]), hI.1⟩
    · rw [nI_leI (by omega) (by omega)] at h12
      refine v_aload_n (pc := 15) (i := 0) F dX8_findEmptyPlaces_15 rfl rfl ?_
      refine v_getR (pc := 16) (o := 1) F fX8_12 dX8_findEmptyPlaces_16 rfl hx ?_
      refine v_topR (y := x + 1) rfl ?_
      refine v_getR (pc := 19) (o := 1) F fX8_57 dX8_findEmptyPlaces_19 rfl (lx8_0 hx) ?_
      refine v_topR (y := x + 2) rfl ?_
      refine v_iload_n (pc := 22) (i := 2) F dX8_findEmptyPlaces_22 rfl rfl ?_
      refine v_ialdN (pc := 23) (k0 := k) F dX8_findEmptyPlaces_23 (lx4_0 (lx8_0 hx)) (rfl) (by omega) (by decide) ?_
      refine v_topE (y := (w 1 k)) (hS2.1.srt k (by omega)) ?_
      refine v_iconst (pc := 24) (v := (-1)) F dX8_findEmptyPlaces_24 (by decide) ?_
      refine v_icmp_ne (pc := 25) (tgt := 38) F dX8_findEmptyPlaces_25 (by decide) (fun he => ?_) (fun he => ?_)
      · skip
        refine v_iinc (pc := 38) (i := 2) (v := nI (k + 1)) (lo' := [some (.ref _), some (.int _), some (.int _)]) F dX8_findEmptyPlaces_38 rfl (j_inc _) rfl rfl ?_
        refine v_goto (pc := 41) (tgt := 4) F dX8_findEmptyPlaces_41 (by decide) ?_
        have q := ih (by omega)
        rw [EK_f he] at q
        exact q _ hI
      · skip
        refine v_aload_n (pc := 28) (i := 0) F dX8_findEmptyPlaces_28 rfl rfl ?_
        refine v_getR (pc := 29) (o := 24) F fX8_25 dX8_findEmptyPlaces_29 rfl hx ?_
        refine v_topR (y := x + 24) rfl ?_
        refine v_iload_n (pc := 32) (i := 1) F dX8_findEmptyPlaces_32 rfl rfl ?_
        refine v_iload_n (pc := 33) (i := 2) F dX8_findEmptyPlaces_33 rfl rfl ?_
        refine v_iastN (pc := 34) (k0 := (EK w k).length) F dX8_findEmptyPlaces_34 (lx8_2 hx) (rfl) (by omega) (by decide) ?_
        refine v_iinc (pc := 35) (i := 1) (v := nI ((EK w k).length + 1)) (lo' := [some (.ref _), some (.int _), some (.int _)]) F dX8_findEmptyPlaces_35 rfl (j_inc _) rfl rfl ?_
        refine v_iinc (pc := 38) (i := 2) (v := nI (k + 1)) (lo' := [some (.ref _), some (.int _), some (.int _)]) F dX8_findEmptyPlaces_38 rfl (j_inc _) rfl rfl ?_
        refine v_goto (pc := 41) (tgt := 4) F dX8_findEmptyPlaces_41 (by decide) ?_
        have q := ih (by omega)
        rw [EK_t he, List.length_append] at q
        refine q _ ⟨hI.1.pI rfl, by show _ + 1 ≤ 3; omega, fun i hi => ?_⟩
        have hi2 : i < (EK w k).length + 1 := hi
        by_cases c : i = (EK w k).length
        · subst c; rw [j_pI_at, List.getD_eq_getElem?_getD, List.getElem?_append_right (Nat.le_refl _), Nat.sub_self]; rfl
        · rw [j_pI_off (by omega), hI.2.2 i (by omega), List.getD_eq_getElem?_getD, List.getD_eq_getElem?_getD, List.getElem?_append_left (by omega)]

/-- the trial scene of k places E: off them it is w -/
def WT (w : Nat → Nat → Int32) (n : Nat) (E : List Nat) (x : Nat) (W : Nat → Nat → Int32) (μ : j_M) : Prop := SQ μ (x + 1) W n ∧ (∀ p, p < 12 → TH (W 1 p)) ∧ ∀ c j, ¬ (c = 1 ∧ j ∈ E) → W c j = w c j
theorem WT.wi {w W : Nat → Nat → Int32} {n x : Nat} {E : List Nat} {μ : j_M} (h : WT w n E x W μ) (hW : WI w n) : WI W n := hW.up (h.2.2 0 1 (fun z => absurd z.1 (by decide))) h.2.1 (fun l _ => h.2.2 2 l (fun z => absurd z.1 (by decide))) (fun l _ => h.2.2 3 l (fun z => absurd z.1 (by decide))) (fun l hl => by rw [h.2.2 7 l (fun z => absurd z.1 (by decide))]; exact hW.sh hl)
theorem WT.up {w W : Nat → Nat → Int32} {n x : Nat} {E E2 : List Nat} {μ : j_M} (h : WT w n E x W μ) (hE : ∀ p, p ∈ E → p ∈ E2) : WT w n E2 x W μ := ⟨h.1, h.2.1, fun c j q => h.2.2 c j (fun z => q ⟨z.1, hE _ z.2⟩)⟩
theorem WT.F {P : Nat → Nat → Prop} {w W : Nat → Nat → Int32} {n x : Nat} {E : List Nat} {μ m : j_M} (h : WT w n E x W μ) (hF : Fm P μ m) (hP : ∀ c j, P c j → ¬ (x + 1 ≤ c ∧ c < x + 1 + 21)) : WT w n E x W m := ⟨SQ_F h.1 hF hP, h.2⟩
abbrev PR8 (x c j : Nat) : Prop := (x + 1 ≤ c ∧ c < x + 22) ∨ c = x + 25
abbrev PI8 (x c j : Nat) : Prop := (x + 1 ≤ c ∧ c < x + 24) ∨ c = x + 25
theorem SQ_set {μ : j_M} {b n c j : Nat} {v : Int32} {w : Nat → Nat → Int32} (h : SQ μ b w n) (hc : ¬ (b ≤ c ∧ c < b + 21)) : SQ (j_pI μ c j v) b w n := SQ_pI h hc

theorem nodup_inj : ∀ {E : List Nat} {a b : Nat}, E.Nodup → a < E.length → b < E.length → E.getD a 0 = E.getD b 0 → a = b := by
  intro E
  induction E with
  | nil => intro a b _ h; exact absurd h (Nat.not_lt_zero _)
  | cons x E ih =>
    intro a b hd ha hb e
    obtain ⟨h1, h2⟩ := List.nodup_cons.mp hd
    rcases a with _ | a <;> rcases b with _ | b
    · rfl
    · have hb2 : b < E.length := by simpa using hb
      have e2 : x = E.getD b 0 := e
      exact absurd (e2 ▸ getD_mem hb2) h1
    · have ha2 : a < E.length := by simpa using ha
      have e2 : E.getD a 0 = x := e
      exact absurd (e2 ▸ getD_mem ha2) h1
    · rw [ih h2 (by simpa using ha) (by simpa using hb) e]

set_option maxRecDepth 100000 in
theorem c_X8_putRow (x : Nat) (hx : j_ob ΛX x 8) (n : Nat) (w : Nat → Nat → Int32) (μ : j_M) (sb : Int32) (rr : Nat) (hrr : rr < 512) (E : List Nat) (hEn : E.Nodup) (hE12 : ∀ i, i < E.length → E.getD i 0 < 12) (hE : ∀ i, i < E.length → μ.1 (x + 24) i = nI (E.getD i 0)) (hk3 : E.length ≤ 3) (W0 : Nat → Nat → Int32) (hT0 : WT w n E x W0 μ)  : Ct yX8_putRow cX8_putRow 6 (some .boolean) 2 ΛX [.ref x, .int (nI rr), .int sb, .int (nI (E.length))] μ (pI fun r μ2 => (∃ W, WT w n E x W μ2 ∧ Fm (PR8 x) μ μ2 ∧ ((r = 1 ∧ ∀ j, j < E.length → tb sb (dgt E.length rr j) = true ∧ W 1 (E.getD j 0) = nI (dgt E.length rr j) ∧ μ2.1 (x + 25) j = nI (dgt E.length rr j)) ∨ (r = 0 ∧ ∃ j, j < E.length ∧ tb sb (dgt E.length rr j) = false)))) := by
  refine Ct.go (lo := [some (.ref x), some (.int (nI rr)), some (.int sb), some (.int (nI (E.length))), none, none]) (by decide) (Nat.le_of_ble_eq_true rfl) rfl rfl (fun X F => ?_)
  have F : Fx X cX8_putRow RX8 2 (some .boolean) ΛX := F
  refine v_iconst (pc := 0) (v := nI 0) F dX8_putRow_0 (by decide) ?_
  refine v_istore (pc := 1) (lo' := [some (.ref _), some (.int _), some (.int _), some (.int _), some (.int _), _]) F dX8_putRow_1 rfl (Nat.le_of_ble_eq_true rfl) rfl ?_
  refine j_up E.length (fun i => ∀ μ' : j_M, (∃ W, WT w n E x W μ' ∧ Fm (PR8 x) μ μ' ∧ ∀ j, j < i → tb sb (dgt E.length rr j) = true ∧ W 1 (E.getD j 0) = nI (dgt E.length rr j) ∧ μ'.1 (x + 25) j = nI (dgt E.length rr j)) → V X _ 3 [some (.ref x), some (.int (nI rr)), some (.int sb), some (.int (nI (E.length))), some (.int (nI i)), none] [] μ') (fun i hi ih μ' hI => ?_) 0 (Nat.zero_le _) μ ⟨W0, hT0, Fm.rf, fun j hj => absurd hj (Nat.not_lt_zero _)⟩
  refine v_iload (pc := 3) (i := 4) F dX8_putRow_3 rfl ?_
  refine v_iload_n (pc := 5) (i := 3) F dX8_putRow_5 rfl rfl ?_
  refine v_icmp_ge (pc := 6) (tgt := 72) F dX8_putRow_6 (by decide) (fun h6 => ?_) (fun h6 => ?_)
  · rw [nI_leI (by omega) (by omega)] at h6
    refine v_iconst (pc := 72) (v := nI 1) F dX8_putRow_72 (by decide) ?_
    refine v_ireturn (pc := 73) F dX8_putRow_73 (rfl) ?_
    have e : i = E.length := by omega
    obtain ⟨Wt, hWt, hIF, hId⟩ := hI
    exact ⟨Wt, hWt, hIF, Or.inl ⟨rfl, fun j hj => hId j (by omega)⟩⟩
  · rw [nI_leI (by omega) (by omega)] at h6
    have hi2 : i < E.length := by omega
    obtain ⟨Wt, hWt, hIF, hId⟩ := hI
    have hWt1 := hWt.1
    refine v_iload (pc := 9) (i := 4) F dX8_putRow_9 rfl ?_
    refine v_iconst (pc := 11) (v := nI 3) F dX8_putRow_11 (by decide) ?_
    refine v_icmp_ge (pc := 12) (tgt := 72) F dX8_putRow_12 (by decide) (fun h12_2 => ?_) (fun h12_2 => ?_)
    · rw [nI_leI (by omega) (by omega)] at h12_2
      omega
    · rw [nI_leI (by omega) (by omega)] at h12_2
      refine v_iload_n (pc := 15) (i := 1) F dX8_putRow_15 rfl rfl ?_
      refine v_iconst (pc := 16) (v := nI 3) F dX8_putRow_16 (by decide) ?_
      refine v_iload_n (pc := 17) (i := 3) F dX8_putRow_17 rfl rfl ?_
      refine v_iconst (pc := 18) (v := nI 1) F dX8_putRow_18 (by decide) ?_
      refine v_isub (pc := 19) F dX8_putRow_19 ?_
      refine v_topE (pk_sub (by omega)) ?_
      refine v_iload (pc := 20) (i := 4) F dX8_putRow_20 rfl ?_
      refine v_isub (pc := 22) F dX8_putRow_22 ?_
      refine v_topE (pk_sub (by omega)) ?_
      refine v_imul (pc := 23) F dX8_putRow_23 ?_
      refine v_topE (pk_mul _ _) ?_
      refine v_ishr (pc := 24) F dX8_putRow_24 ?_
      refine v_bipush (pc := 25) (v := nI 7) F dX8_putRow_25 (by decide) ?_
      refine v_iand (pc := 27) F dX8_putRow_27 ?_
      refine v_topE (y := nI (dgt E.length rr i)) (dg_eq hrr (by omega)) ?_
      have hd8 : dgt E.length rr i < 8 := Nat.mod_lt _ (by decide)
      refine v_istore (pc := 28) (lo' := [some (.ref _), some (.int _), some (.int _), some (.int _), some (.int _), some (.int _)]) F dX8_putRow_28 rfl (Nat.le_of_ble_eq_true rfl) rfl ?_
      refine v_iload_n (pc := 30) (i := 2) F dX8_putRow_30 rfl rfl ?_
      refine v_iload (pc := 31) (i := 5) F dX8_putRow_31 rfl ?_
      refine v_ishr (pc := 33) F dX8_putRow_33 ?_
      refine v_iconst (pc := 34) (v := nI 1) F dX8_putRow_34 (by decide) ?_
      refine v_iand (pc := 35) F dX8_putRow_35 ?_
      refine v_if_ne (pc := 36) (tgt := 41) F dX8_putRow_36 (by decide) (fun htb => ?_) (fun htb => ?_)
      · rw [tb_if (by omega)] at htb
        rw [Classical.not_not] at htb
        refine v_aload_n (pc := 41) (i := 0) F dX8_putRow_41 rfl rfl ?_
        refine v_getR (pc := 42) (o := 25) F fX8_29 dX8_putRow_42 rfl hx ?_
        refine v_topR (y := x + 25) rfl ?_
        refine v_iload (pc := 45) (i := 4) F dX8_putRow_45 rfl ?_
        refine v_iload (pc := 47) (i := 5) F dX8_putRow_47 rfl ?_
        refine v_iastN (pc := 49) (k0 := i) F dX8_putRow_49 (lx8_3 hx) (rfl) (by omega) (by decide) ?_
        refine v_aload_n (pc := 50) (i := 0) F dX8_putRow_50 rfl rfl ?_
        refine v_getR (pc := 51) (o := 1) F fX8_12 dX8_putRow_51 rfl hx ?_
        refine v_topR (y := x + 1) rfl ?_
        refine v_aload_n (pc := 54) (i := 0) F dX8_putRow_54 rfl rfl ?_
        refine v_getR (pc := 55) (o := 24) F fX8_25 dX8_putRow_55 rfl hx ?_
        refine v_topR (y := x + 24) rfl ?_
        refine v_iload (pc := 58) (i := 4) F dX8_putRow_58 rfl ?_
        refine v_ialdN (pc := 60) (k0 := i) F dX8_putRow_60 (lx8_2 hx) (rfl) (by omega) (by decide) ?_
        refine v_topE (y := nI ((E.getD i 0))) (by rw [j_pI_off (by omega), hIF.1 _ _ (by omega)]; exact hE i hi2) ?_
        refine v_iload (pc := 61) (i := 5) F dX8_putRow_61 rfl ?_
        refine v_callVV (pc := 63) (As := [_, _]) (rest := []) (c := 4) F mX4_put kX8_73 im_X4_put se_X4_put dX8_putRow_63 rfl rfl (by decide) (c_X4_put (x + 1) (lx8_0 hx) n Wt _ (SQ_pI hWt1 (by omega)) hWt.2.1 (E.getD i 0) (hE12 i hi2) _ (Or.inr ⟨_, hd8, rfl⟩)) (by decide) rfl rfl (Nat.le_of_ble_eq_true rfl) (lx8_0 hx) (fun μ4 hp4 => ?_)
        skip
        have hW3 : WT w n E x (wth Wt (E.getD i 0) (nI (dgt E.length rr i))) μ4 := ⟨hp4.1, fun p hp => (by
          show TH (if (1 : Nat) = 1 ∧ p = E.getD i 0 then _ else Wt 1 p)
          by_cases c : p = E.getD i 0
          · rw [if_pos ⟨rfl, c⟩]; exact Or.inr ⟨_, hd8, rfl⟩
          · rw [if_neg (fun z => c z.2)]; exact hWt.2.1 p hp), fun c j q => (by
          show (if c = 1 ∧ j = E.getD i 0 then _ else Wt c j) = w c j
          have hne : ¬ (c = 1 ∧ j = E.getD i 0) := fun z => q ⟨z.1, by rw [z.2]; exact getD_mem hi2⟩
          rw [if_neg hne]
          exact hWt.2.2 c j q)⟩
        refine v_iinc (pc := 66) (i := 4) (v := nI (i + 1)) (lo' := [some (.ref _), some (.int _), some (.int _), some (.int _), some (.int _), some (.int _)]) F dX8_putRow_66 rfl (j_inc _) rfl rfl ?_
        refine v_goto (pc := 69) (tgt := 3) F dX8_putRow_69 (by decide) ?_
        refine v_drop (i := 5) (lo' := [some (.ref _), some (.int _), some (.int _), some (.int _), some (.int _), _]) rfl ?_
        refine ih (by omega) _ ⟨wth Wt (E.getD i 0) (nI (dgt E.length rr i)), hW3, (hIF.pI (Or.inr rfl)).tr (hp4.2.mono (fun c j z => by omega)), fun j hj => ?_⟩
        have hoff : ∀ m : j_M, m.1 (x + 25) j = m.1 (x + 25) j := fun _ => rfl
        have hm25 : μ4.1 (x + 25) j = (j_pI μ' (x + 25) i (nI (dgt E.length rr i))).1 (x + 25) j := hp4.2.1 _ _ (by omega)
        by_cases e : j = i
        · subst e; exact ⟨htb, if_pos ⟨rfl, rfl⟩, hm25.trans j_pI_at⟩
        · obtain ⟨q1, q2, q3⟩ := hId j (by omega)
          refine ⟨q1, ?_, hm25.trans ((j_pI_off (by omega)).trans q3)⟩
          refine (if_neg (fun z => e ?_)).trans q2
          exact nodup_inj hEn (by omega) hi2 z.2
      · rw [tb_if (by omega)] at htb
        refine v_iconst (pc := 39) (v := nI 0) F dX8_putRow_39 (by decide) ?_
        refine v_ireturn (pc := 40) F dX8_putRow_40 (rfl) ?_
        exact ⟨Wt, hWt, hIF, Or.inr ⟨rfl, i, hi2, Bool.eq_false_iff.mpr htb⟩⟩

set_option maxRecDepth 100000 in
theorem c_X8_isEnough (x : Nat) (hx : j_ob ΛX x 8) (n : Nat) (w : Nat → Nat → Int32) (μ : j_M) (hW : WI w n) (st : Nat) (hst : st < 2 ^ n) (sb : Int32) (E : List Nat) (hEn : E.Nodup) (hE12 : ∀ i, i < E.length → E.getD i 0 < 12) (hE : ∀ i, i < E.length → μ.1 (x + 24) i = nI (E.getD i 0)) (hk3 : E.length ≤ 3) (W0 : Nat → Nat → Int32) (hT0 : WT w n E x W0 μ)  : Ct yX8_isEnough cX8_isEnough 6 (some .boolean) 5 ΛX [.ref x, .int (nI st), .int sb, .int (nI (E.length))] μ (pI fun r μ2 => (∃ W, WT w n E x W μ2) ∧ Fm (PI8 x) μ μ2 ∧ ((r = 0 ∧ fN (POL n (nI st) sb E w) (8 ^ E.length) = none) ∨ (r = 1 ∧ ∃ rr, fN (POL n (nI st) sb E w) (8 ^ E.length) = some rr ∧ ∀ j, j < E.length → μ2.1 (x + 25) j = nI (dgt E.length rr j)))) := by
  refine Ct.go (lo := [some (.ref x), some (.int (nI st)), some (.int sb), some (.int (nI (E.length))), none, none]) (by decide) (Nat.le_of_ble_eq_true rfl) rfl rfl (fun X F => ?_)
  have F : Fx X cX8_isEnough RX8 5 (some .boolean) ΛX := F
  have hn8 := hT0.1.2
  have hp8 := p8_le hk3
  refine v_iconst (pc := 0) (v := nI 1) F dX8_isEnough_0 (by decide) ?_
  refine v_iconst (pc := 1) (v := nI 3) F dX8_isEnough_1 (by decide) ?_
  refine v_iload_n (pc := 2) (i := 3) F dX8_isEnough_2 rfl rfl ?_
  refine v_imul (pc := 3) F dX8_isEnough_3 ?_
  refine v_topE (pk_mul _ _) ?_
  refine v_ishl (pc := 4) F dX8_isEnough_4 ?_
  refine v_topE (y := nI (8 ^ E.length)) (shl_8 hk3) ?_
  refine v_istore (pc := 5) (lo' := [some (.ref _), some (.int _), some (.int _), some (.int _), some (.int _), _]) F dX8_isEnough_5 rfl (Nat.le_of_ble_eq_true rfl) rfl ?_
  refine v_iconst (pc := 7) (v := nI 0) F dX8_isEnough_7 (by decide) ?_
  refine v_istore (pc := 8) (lo' := [some (.ref _), some (.int _), some (.int _), some (.int _), some (.int _), some (.int _)]) F dX8_isEnough_8 rfl (Nat.le_of_ble_eq_true rfl) rfl ?_
  refine j_up (8 ^ E.length) (fun rr => ∀ μ' : j_M, ((∃ W, WT w n E x W μ') ∧ Fm (PI8 x) μ μ' ∧ ∀ j, j < rr → (POL n (nI st) sb E w) j = false) → V X _ 10 [some (.ref x), some (.int (nI st)), some (.int sb), some (.int (nI (E.length))), some (.int (nI (8 ^ E.length))), some (.int (nI rr))] [] μ') (fun rr hrr1 ih μ' hI => ?_) 0 (Nat.zero_le _) μ ⟨⟨W0, hT0⟩, Fm.rf, fun j hj => absurd hj (Nat.not_lt_zero _)⟩
  refine v_iload (pc := 10) (i := 5) F dX8_isEnough_10 rfl ?_
  refine v_iload (pc := 12) (i := 4) F dX8_isEnough_12 rfl ?_
  refine v_icmp_ge (pc := 14) (tgt := 66) F dX8_isEnough_14 (by decide) (fun h14 => ?_) (fun h14 => ?_)
  · rw [nI_leI (by omega) (by omega)] at h14
    refine v_iconst (pc := 66) (v := nI 0) F dX8_isEnough_66 (by decide) ?_
    refine v_ireturn (pc := 67) F dX8_isEnough_67 (rfl) ?_
    have e : rr = 8 ^ E.length := by omega
    exact ⟨hI.1, hI.2.1, Or.inl ⟨rfl, fN_none (fun j hj => hI.2.2 j (by omega))⟩⟩
  · rw [nI_leI (by omega) (by omega)] at h14
    have hrr : rr < 8 ^ E.length := by omega
    obtain ⟨Wq, hWq⟩ := hI.1
    refine v_aload_n (pc := 17) (i := 0) F dX8_isEnough_17 rfl rfl ?_
    refine v_iload (pc := 18) (i := 5) F dX8_isEnough_18 rfl ?_
    refine v_iload_n (pc := 20) (i := 2) F dX8_isEnough_20 rfl rfl ?_
    refine v_iload_n (pc := 21) (i := 3) F dX8_isEnough_21 rfl rfl ?_
    refine v_callVI (pc := 22) (As := [_, _, _]) (rest := []) (c := 8) F mX8_putRow kX8_60 im_X8_putRow se_X8_putRow dX8_isEnough_22 rfl rfl (by decide) (c_X8_putRow x hx n w μ' sb rr (by omega) E hEn hE12 (fun i hi => (hI.2.1.1 _ _ (by omega)).trans (hE i hi)) hk3 Wq hWq) (by decide) rfl rfl (Nat.le_of_ble_eq_true rfl) hx (fun x2 μ2 hp2 => ?_)
    obtain ⟨Wt, hWt, hFt, hor⟩ := hp2
    have hIF2 := hI.2.1.tr (hFt.mono (fun c j z => by omega))
    rcases hor with ⟨hx1, hyes⟩ | ⟨hx1, hno⟩
    · skip
      rw [hx1]
      refine v_if_eq (pc := 25) (tgt := 60) F dX8_isEnough_25 (by decide) (fun h25_3 => ?_) (fun h25_3 => ?_)
      · skip
        exact absurd h25_3 (by decide)
      · skip
        have hP : (POL n (nI st) sb E w) rr = decide (nI (gnE Wt n (nI st)) = jbc (nI st)) := POL_yes E w rr Wt hrr (fun j hj => (hyes j hj).1) (fun j hj => (hyes j hj).2.1) hWt.2.2
        refine v_aload_n (pc := 28) (i := 0) F dX8_isEnough_28 rfl rfl ?_
        refine v_getR (pc := 29) (o := 22) F fX8_21 dX8_isEnough_29 rfl hx ?_
        refine v_topR (y := x + 22) rfl ?_
        refine v_aload_n (pc := 32) (i := 0) F dX8_isEnough_32 rfl rfl ?_
        refine v_getR (pc := 33) (o := 1) F fX8_12 dX8_isEnough_33 rfl hx ?_
        refine v_topR (y := x + 1) rfl ?_
        refine v_iload_n (pc := 36) (i := 1) F dX8_isEnough_36 rfl rfl ?_
        refine v_aload_n (pc := 37) (i := 0) F dX8_isEnough_37 rfl rfl ?_
        refine v_getR (pc := 38) (o := 1) F fX8_12 dX8_isEnough_38 rfl hx ?_
        refine v_topR (y := x + 1) rfl ?_
        refine v_getI (pc := 41) F fX8_63 dX8_isEnough_41 rfl (lx8_0 hx) ?_
        refine v_topE (y := (lfB (Wt 1))) (hWt.1.1.fil) ?_
        refine v_callVV (pc := 44) (As := [_, _, _]) (rest := []) (c := 2) F mX2_run kX8_66 im_X2_run se_X2_run dX8_isEnough_44 rfl rfl (by decide) (c_X2_run (x + 22) (lx8_1 hx) (x + 1) (lx8_0 hx) n Wt _ (hWt.1) (hWt.wi hW) (nI st) (Wt 1) UU.self (by omega)) (by decide) rfl rfl (Nat.le_of_ble_eq_true rfl) (lx8_1 hx) (fun μ4 hp4 => ?_)
        skip
        refine v_aload_n (pc := 47) (i := 0) F dX8_isEnough_47 rfl rfl ?_
        refine v_getR (pc := 48) (o := 22) F fX8_21 dX8_isEnough_48 rfl hx ?_
        refine v_topR (y := x + 22) rfl ?_
        refine v_getI (pc := 51) F fX8_70 dX8_isEnough_51 rfl (lx8_1 hx) ?_
        refine v_topE (y := (bK (fun l => tb (nI st) l && gdE Wt n (nI st) l) n)) (hp4.2.2.2.1) ?_
        refine v_iload_n (pc := 54) (i := 1) F dX8_isEnough_54 rfl rfl ?_
        refine v_icmp_ne (pc := 55) (tgt := 60) F dX8_isEnough_55 (by decide) (fun hgs => ?_) (fun hgs => ?_)
        · rw [gl_all hn8 hst] at hgs
          refine v_iinc (pc := 60) (i := 5) (v := nI (rr + 1)) (lo' := [some (.ref _), some (.int _), some (.int _), some (.int _), some (.int _), some (.int _)]) F dX8_isEnough_60 rfl (j_inc _) rfl rfl ?_
          refine v_goto (pc := 63) (tgt := 10) F dX8_isEnough_63 (by decide) ?_
          refine ih (by omega) _ ⟨⟨Wt, hWt.F hp4.1 (fun c j z => by omega)⟩, hIF2.tr (hp4.1.mono (fun c j z => by omega)), fun j hj => ?_⟩
          rcases Nat.lt_succ_iff_lt_or_eq.mp hj with z | z
          · exact hI.2.2 j z
          · rw [z]; exact hP.trans (decide_eq_false hgs)
        · rw [gl_all hn8 hst] at hgs
          refine v_iconst (pc := 58) (v := nI 1) F dX8_isEnough_58 (by decide) ?_
          refine v_ireturn (pc := 59) F dX8_isEnough_59 (rfl) ?_
          refine ⟨⟨Wt, hWt.F hp4.1 (fun c j z => by omega)⟩, hIF2.tr (hp4.1.mono (fun c j z => by omega)), Or.inr ⟨rfl, rr, fN_some hrr (hP.trans (decide_eq_true hgs)) hI.2.2, fun j hj => ?_⟩⟩
          exact (hp4.1.1 _ _ (by omega)).trans (hyes j hj).2.2
    · skip
      rw [hx1]
      refine v_if_eq (pc := 25) (tgt := 60) F dX8_isEnough_25 (by decide) (fun h25_6 => ?_) (fun h25_6 => ?_)
      · skip
        refine v_iinc (pc := 60) (i := 5) (v := nI (rr + 1)) (lo' := [some (.ref _), some (.int _), some (.int _), some (.int _), some (.int _), some (.int _)]) F dX8_isEnough_60 rfl (j_inc _) rfl rfl ?_
        refine v_goto (pc := 63) (tgt := 10) F dX8_isEnough_63 (by decide) ?_
        refine ih (by omega) _ ⟨⟨Wt, hWt⟩, hIF2, fun j hj => ?_⟩
        rcases Nat.lt_succ_iff_lt_or_eq.mp hj with z | z
        · exact hI.2.2 j z
        · rw [z]
          obtain ⟨j2, h1, h2⟩ := hno
          exact POL_no E w rr j2 hrr h1 h2
      · skip
        exact absurd rfl h25_6
