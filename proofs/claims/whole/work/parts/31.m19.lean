/-! the reference's christmases -/
theorem goT_w {w w' : Nat → Nat → Int32} (h2 : w 2 = w' 2) (h3 : w 3 = w' 3) (h5 : w 5 = w' 5) {O : List Nat} {u : Nat → Int32} {x : Nat} : goT w O u x = goT w' O u x := by
  induction O generalizing u with
  | nil => rfl
  | cons a O ih => simp only [goT]; rw [h2, h3, h5, ih]
theorem goU_w {w w' : Nat → Nat → Int32} (h2 : w 2 = w' 2) (h3 : w 3 = w' 3) (h5 : w 5 = w' 5) {O : List Nat} {u : Nat → Int32} : goU w O u = goU w' O u := by
  induction O generalizing u with
  | nil => rfl
  | cons a O ih => simp only [goU]; rw [h2, h3, h5, ih]
theorem Fm_c {a b : j_M} (h : Fm PS a b) (c : Nat) (h1 : 1 ≤ c) (h2 : c < 15) : b.1 c = a.1 c := funext fun j => h.1 c j (by unfold PS; omega)
theorem tE_F {a b : j_M} (h : Fm PS a b) {n : Nat} {set : Int32} : tE b.1 n set = tE a.1 n set := by
  funext l
  unfold tE OO
  rw [goT_w (Fm_c h 2 (by omega) (by omega)) (Fm_c h 3 (by omega) (by omega)) (Fm_c h 5 (by omega) (by omega)), Fm_c h 4 (by omega) (by omega), Fm_c h 1 (by omega) (by omega)]
theorem uE_F {a b : j_M} (h : Fm PS a b) {n : Nat} {set : Int32} : uE b.1 n set = uE a.1 n set := by
  unfold uE OO
  rw [goU_w (Fm_c h 2 (by omega) (by omega)) (Fm_c h 3 (by omega) (by omega)) (Fm_c h 5 (by omega) (by omega)), Fm_c h 4 (by omega) (by omega), Fm_c h 1 (by omega) (by omega)]
theorem gnP_F {t : Nat → Int32} {T : List Nat} {l : Nat} {a b : j_M} (h : Fm PS a b) : ∀ p, Fm PS (gnP t T l a p) (gnP t T l b p) := by
  intro p
  induction p with
  | zero => exact h
  | succ p ih =>
    by_cases hp : p ∈ T
    · rw [gnP_t hp, gnP_t hp]; exact gn1_F ih
    · rw [gnP_f hp, gnP_f hp]; exact ih
theorem goL_F {t : Nat → Int32} {Tf : Nat → List Nat} {a b : j_M} (h : Fm PS a b) : ∀ l, Fm PS (goL t Tf a l) (goL t Tf b l) := by
  intro l
  induction l with
  | zero => exact h
  | succ l ih =>
    by_cases hp : (Tf l).isEmpty = true
    · rw [goL_t hp, goL_t hp]; exact gnP_F ih 12
    · rw [goL_f hp, goL_f hp]; exact (gnP_F ih 12).both
theorem goF_F {u : Nat → Int32} {a b : j_M} (h : Fm PS a b) : ∀ k, Fm PS (goF u a k) (goF u b k) := by
  intro k
  induction k with
  | zero => rw [goF_0, goF_0]; exact h
  | succ k ih => rw [goF_s, goF_s]; exact ih.both
theorem nn_F {a b : j_M} (h : Fm PS a b) : nn b = nn a := by unfold nn; rw [h.1 0 1 (by unfold PS; omega)]
theorem goes_F {a b : j_M} (h : Fm PS a b) {set : Int32} : (s_goes set b).1 = (s_goes set a).1 ∧ Fm PS (s_goes set a).2 (s_goes set b).2 := by
  unfold s_goes
  rw [tE_F h, uE_F h, nn_F h, Fm_c h 1 (by omega) (by omega), h.1 0 9 (by unfold PS; omega)]
  exact ⟨rfl, (goF_F (goL_F h _) _).both⟩
theorem drM_F {a b : j_M} (h : Fm PS a b) : Fm PS (drM a) (drM b) := by
  unfold drM
  rw [h.1 0 10 (by unfold PS; omega)]
  exact h.both
def GW (n : Nat) (m : j_M) : Prop := m.1 0 1 = nI n ∧ (∀ l, l < n → ¬ m.1 3 l = -1) ∧ ∀ p, p < 12 → TH (m.1 1 p)
theorem GW.F {n : Nat} {a b : j_M} (h : GW n a) (hF : Fm PS a b) : GW n b := ⟨(hF.1 0 1 (by unfold PS; omega)).trans h.1, fun l hl => by rw [Fm_c hF 3 (by omega) (by omega)]; exact h.2.1 l hl, fun p hp => by rw [Fm_c hF 1 (by omega) (by omega)]; exact h.2.2 p hp⟩
theorem GW_dr {n : Nat} {m : j_M} (h : GW n m) : GW n (drM m) := ⟨(j_pI_off (by omega)).trans h.1, fun l hl => by unfold drM; rw [j_pI_ne (by decide)]; exact h.2.1 l hl, fun p hp => by unfold drM; rw [j_pI_ne (by decide)]; exact h.2.2 p hp⟩
theorem GW_cm {n : Nat} {m : j_M} (h : GW n m) : ∀ l, GW n (cmS m l).2 := by
  intro l
  induction l with
  | zero => exact h
  | succ l ih => exact GW_dr ih
theorem th_nI {k : Nat} (h : k < 8) : TH (nI k) := Or.inr ⟨k, h, rfl⟩
theorem fi_t {m : j_M} {p : Nat} (h : (fiM m p).1 1 p = -1) : fiM m (p + 1) = j_pI (drM (fiM m p)) 1 p (nI (drv (sdN ((fiM m p).1 0 10)) 8)) := if_pos h
theorem fi_f {m : j_M} {p : Nat} (h : ¬ (fiM m p).1 1 p = -1) : fiM m (p + 1) = fiM m p := if_neg h
theorem GW_fi {n : Nat} {m : j_M} (h : GW n m) : ∀ p, GW n (fiM m p) := by
  intro p
  induction p with
  | zero => exact h
  | succ p ih =>
    by_cases hz : (fiM m p).1 1 p = -1
    · rw [fi_t hz]
      have hd := GW_dr ih
      refine ⟨(j_pI_off (by omega)).trans hd.1, fun l hl => by rw [j_pI_ne (by decide)]; exact hd.2.1 l hl, fun q hq => ?_⟩
      by_cases e : q = p
      · subst e; rw [j_pI_at]; exact th_nI (drv_lt (by omega))
      · rw [j_pI_off (by omega)]; exact hd.2.2 q hq
    · rw [fi_f hz]; exact ih
theorem rmL_TH {u : Nat → Int32} {L : List Nat} {p : Nat} (h : TH (u p)) : TH (rmL u L p) := by
  unfold rmL
  by_cases hp : p ∈ L
  · rw [if_pos hp]; exact Or.inl rfl
  · rw [if_neg hp]; exact h
theorem goU_TH {w : Nat → Nat → Int32} {O : List Nat} {p : Nat} : ∀ {u : Nat → Int32}, TH (u p) → TH (goU w O u p) := by
  induction O with
  | nil => intro u h; exact h
  | cons a O ih => intro u h; exact ih (rmL_TH h)
theorem goF_o {u : Nat → Int32} {m : j_M} {k c j : Nat} (h : ¬ (c = 1 ∧ j < k)) : (goF u m k).1 c j = m.1 c j := if_neg h
theorem ch_1 {n i : Nat} {m : j_M} : (chM n m (i + 1)).1 = (chM n m i).1 + (s_goes (cmS (chM n m i).2 n).1 (cmS (chM n m i).2 n).2).1 := rfl
theorem ch_2 {n i : Nat} {m : j_M} : (chM n m (i + 1)).2 = fi12 (s_goes (cmS (chM n m i).2 n).1 (cmS (chM n m i).2 n).2).2 := by rw [chM]
theorem cm_t {m : j_M} {l : Nat} (h : nI (drv (sdN ((cmS m l).2.1 0 10)) 12) < (cmS m l).2.1 6 l) : (cmS m (l + 1)).1 = (cmS m l).1 ||| ((1 : Int32) <<< (nI l &&& 31)) := if_pos h
theorem cm_f {m : j_M} {l : Nat} (h : ¬ nI (drv (sdN ((cmS m l).2.1 0 10)) 12) < (cmS m l).2.1 6 l) : (cmS m (l + 1)).1 = (cmS m l).1 := if_neg h
theorem cm_2 {m : j_M} {l : Nat} : (cmS m (l + 1)).2 = drM (cmS m l).2 := rfl
theorem GW_go {n : Nat} {m : j_M} {set : Int32} (h : GW n m) : GW n (s_goes set m).2 := by
  unfold s_goes
  refine ⟨?_, fun l hl => ?_, fun p hp => ?_⟩
  · rw [j_pI_off (by omega)]
    rw [goF_o (by omega), goL_c (by decide) (by decide)]
    exact h.1
  · rw [j_pI_ne (by decide), goF_o (by omega), goL_c (by decide) (by decide)]
    exact h.2.1 l hl
  · rw [j_pI_ne (by decide), show (goF (uE m.1 (nn m) set) (goL (m.1 1) (tE m.1 (nn m) set) m (nn m)) 12).1 1 p = uE m.1 (nn m) set p from if_pos ⟨rfl, hp⟩]
    exact goU_TH (h.2.2 p hp)
theorem GW_ch {n : Nat} {m : j_M} (h : GW n m) : ∀ i, GW n (chM n m i).2 := by
  intro i
  induction i with
  | zero => exact h
  | succ i ih => rw [ch_2]; unfold fi12; exact GW_fi (GW_go (GW_cm ih n)) 12

set_option maxRecDepth 100000 in
theorem c_X10_christmases (k : Int32) (μ : j_M) (hM : MI μ) : Ct yX10_christmases cX10_christmases 6 (some .int) 7 ΛM [.ref 0, .int k] μ (pI fun r μ2 => r = (s_christmases k μ).1 ∧ Fm PS (s_christmases k μ).2 μ2) := by
  refine Ct.go (lo := [some (.ref 0), some (.int k), none, none, none, none]) (by decide) (Nat.le_of_ble_eq_true rfl) rfl rfl (fun X F => ?_)
  have F : Fx X cX10_christmases RX10 7 (some .int) ΛM := F
  obtain ⟨n, hW, hsh, htp, him⟩ := id hM
  have hn := hW.1
  have hn8 := hW.2.1
  have hnn := nn_eq hn hn8
  have ho := hW.own
  have hrw : RW μ.1 n μ := RW.self hn
  have hpw := j_pw hn8
  refine v_iload_n (pc := 0) (i := 1) F dX10_christmases_0 rfl rfl ?_
  refine v_iconst (pc := 1) (v := nI 1) F dX10_christmases_1 (by decide) ?_
  refine v_bipush (pc := 2) (v := nI 40) F dX10_christmases_2 (by decide) ?_
  refine v_callSI (pc := 4) (As := [_, _, _]) (rest := []) F mX10_within kX10_85 sm_X10_within dX10_christmases_4 (c_X10_withinB _ 1 40 _) (by decide) rfl rfl (Nat.le_of_ble_eq_true rfl) (fun x1 μ1 hp1 => ?_)
  rw [hp1.1, hp1.2]
  refine v_if_ne (pc := 7) (tgt := 17) F dX10_christmases_7 (by decide) (fun hin => ?_) (fun hin => ?_)
  · rw [b2i_0] at hin
    rw [Classical.not_not] at hin
    obtain ⟨kk, hk1, hk40, hke⟩ := inB_of (by decide) (by decide) hin
    subst hke
    have ekk : ix (nI kk) = kk := ix_nI (by omega)
    have hG : GW n μ := ⟨hn, ho, hW.2.2.1⟩
    refine v_iconst (pc := 17) (v := nI 0) F dX10_christmases_17 (by decide) ?_
    refine v_istore_n (pc := 18) (lo' := [some (.ref _), some (.int _), some (.int _), _, _, _]) F dX10_christmases_18 rfl rfl (Nat.le_of_ble_eq_true rfl) rfl ?_
    refine v_iconst (pc := 19) (v := nI 0) F dX10_christmases_19 (by decide) ?_
    refine v_istore_n (pc := 20) (lo' := [some (.ref _), some (.int _), some (.int _), some (.int _), _, _]) F dX10_christmases_20 rfl rfl (Nat.le_of_ble_eq_true rfl) rfl ?_
    refine j_up kk (fun i => ∀ μ1 : j_M, (Fm PS (chM n μ i).2 μ1) → V X _ 21 [some (.ref 0), some (.int (nI kk)), some (.int ((chM n μ i).1)), some (.int (nI i)), none, none] [] μ1) (fun i hi ihi μ1 hI => ?_) 0 (Nat.zero_le _) μ (Fm.rf)
    refine v_iload_n (pc := 21) (i := 3) F dX10_christmases_21 rfl rfl ?_
    refine v_iload_n (pc := 22) (i := 1) F dX10_christmases_22 rfl rfl ?_
    refine v_icmp_ge (pc := 23) (tgt := 127) F dX10_christmases_23 (by decide) (fun h23_3 => ?_) (fun h23_3 => ?_)
    · rw [nI_leI (by omega) (by omega)] at h23_3
      refine v_iload_n (pc := 127) (i := 2) F dX10_christmases_127 rfl rfl ?_
      refine v_ireturn (pc := 128) F dX10_christmases_128 (rfl) ?_
      have e : i = kk := by omega
      subst e
      simp only [s_christmases, hnn, hin, ekk, h23_3, hin, ↓reduceIte]
      exact ⟨by first | exact trivial | exact rfl, hI⟩
    · rw [nI_leI (by omega) (by omega)] at h23_3
      refine v_iconst (pc := 26) (v := nI 0) F dX10_christmases_26 (by decide) ?_
      refine v_istore (pc := 27) (lo' := [some (.ref _), some (.int _), some (.int _), some (.int _), some (.int _), _]) F dX10_christmases_27 rfl (Nat.le_of_ble_eq_true rfl) rfl ?_
      refine v_iconst (pc := 29) (v := nI 0) F dX10_christmases_29 (by decide) ?_
      refine v_istore (pc := 30) (lo' := [some (.ref _), some (.int _), some (.int _), some (.int _), some (.int _), some (.int _)]) F dX10_christmases_30 rfl (Nat.le_of_ble_eq_true rfl) rfl ?_
      refine j_up n (fun l => ∀ μ2 : j_M, (Fm PS (cmS (chM n μ i).2 l).2 μ2) → V X _ 32 [some (.ref 0), some (.int (nI kk)), some (.int ((chM n μ i).1)), some (.int (nI i)), some (.int ((cmS (chM n μ i).2 l).1)), some (.int (nI l))] [] μ2) (fun l hl ihl μ2 hJ => ?_) 0 (Nat.zero_le _) μ1 (hI)
      refine v_iload (pc := 32) (i := 5) F dX10_christmases_32 rfl ?_
      refine v_aload_n (pc := 34) (i := 0) F dX10_christmases_34 rfl rfl ?_
      refine v_getI (pc := 35) F fX10_89 dX10_christmases_35 rfl lm0 ?_
      refine v_topE (((GW_cm (GW_ch hG i) l).F hJ).1) ?_
      refine v_icmp_ge (pc := 38) (tgt := 72) F dX10_christmases_38 (by decide) (fun h38_4 => ?_) (fun h38_4 => ?_)
      · rw [nI_leI (by omega) (by omega)] at h38_4
        have e9 : n = l := by omega
        subst e9
        have hG2 := (GW_cm (GW_ch hG i) n).F hJ
        refine v_iload_n (pc := 72) (i := 2) F dX10_christmases_72 rfl rfl ?_
        refine v_aload_n (pc := 73) (i := 0) F dX10_christmases_73 rfl rfl ?_
        refine v_iload (pc := 74) (i := 4) F dX10_christmases_74 rfl ?_
        refine v_callVI (pc := 76) (As := [_]) (rest := [_]) (c := 10) F mX10_goes kX10_307 im_X10_goes se_X10_goes dX10_christmases_76 rfl rfl (by decide) (c_X10_goes _ n _ hG2.1 hn8 hG2.2.1 hG2.2.2 (nn_eq hG2.1 hn8)) (by decide) rfl rfl (Nat.le_of_ble_eq_true rfl) lm0 (fun x5 μ5 hp5 => ?_)
        have hq := hp5
        rw [(goes_F hJ).1] at hq
        have hq2 := (goes_F (set := (cmS (chM n μ i).2 n).1) hJ).2.tr hq.2
        rw [hq.1]
        generalize μ5 = μ3 at hq hq2 ⊢
        refine v_iadd (pc := 79) F dX10_christmases_79 ?_
        refine v_istore_n (pc := 80) (lo' := [some (.ref _), some (.int _), some (.int _), some (.int _), some (.int _), some (.int _)]) F dX10_christmases_80 rfl rfl (Nat.le_of_ble_eq_true rfl) rfl ?_
        refine v_iconst (pc := 81) (v := nI 0) F dX10_christmases_81 (by decide) ?_
        refine v_istore (pc := 82) (lo' := [some (.ref _), some (.int _), some (.int _), some (.int _), some (.int _), some (.int _)]) F dX10_christmases_82 rfl (Nat.le_of_ble_eq_true rfl) rfl ?_
        refine j_up 12 (fun p => ∀ μ4 : j_M, (Fm PS (fiM (s_goes (cmS (chM n μ i).2 n).1 (cmS (chM n μ i).2 n).2).2 p) μ4) → V X _ 84 [some (.ref 0), some (.int (nI kk)), some (.int (((chM n μ i).1 + (s_goes (cmS (chM n μ i).2 n).1 (cmS (chM n μ i).2 n).2).1))), some (.int (nI i)), some (.int ((cmS (chM n μ i).2 n).1)), some (.int (nI p))] [] μ4) (fun p hp ihp μ4 hK => ?_) 0 (Nat.zero_le _) μ3 (hq2)
        refine v_iload (pc := 84) (i := 5) F dX10_christmases_84 rfl ?_
        refine v_bipush (pc := 86) (v := nI 12) F dX10_christmases_86 (by decide) ?_
        refine v_icmp_ge (pc := 88) (tgt := 121) F dX10_christmases_88 (by decide) (fun h88_6 => ?_) (fun h88_6 => ?_)
        · rw [nI_leI (by omega) (by omega)] at h88_6
          have e12 : 12 = p := by omega
          subst e12
          refine v_iinc (pc := 121) (i := 3) (v := nI (i + 1)) (lo' := [some (.ref _), some (.int _), some (.int _), some (.int _), some (.int _), some (.int _)]) F dX10_christmases_121 rfl (j_inc _) rfl rfl ?_
          refine v_goto (pc := 124) (tgt := 21) F dX10_christmases_124 (by decide) ?_
          refine v_drop (i := 4) (lo' := [some (.ref _), some (.int _), some (.int _), some (.int _), _, some (.int _)]) rfl ?_
          refine v_drop (i := 5) (lo' := [some (.ref _), some (.int _), some (.int _), some (.int _), _, _]) rfl ?_
          have q := ihi (by omega) μ4 (by rw [ch_2]; unfold fi12; exact hK)
          rw [ch_1] at q
          exact q
        · rw [nI_leI (by omega) (by omega)] at h88_6
          refine v_aload_n (pc := 91) (i := 0) F dX10_christmases_91 rfl rfl ?_
          refine v_getR (pc := 92) (o := 1) F fX10_9 dX10_christmases_92 rfl lm0 ?_
          refine v_topR (y := 1) rfl ?_
          refine v_iload (pc := 95) (i := 5) F dX10_christmases_95 rfl ?_
          refine v_ialdN (pc := 97) (k0 := p) F dX10_christmases_97 (lm10_0 lm0) (rfl) (by omega) (by decide) ?_
          refine v_iconst (pc := 98) (v := (-1)) F dX10_christmases_98 (by decide) ?_
          refine v_icmp_ne (pc := 99) (tgt := 115) F dX10_christmases_99 (by decide) (fun hz => ?_) (fun hz => ?_)
          · rw [hK.1 1 p (by unfold PS; omega)] at hz
            refine v_iinc (pc := 115) (i := 5) (v := nI (p + 1)) (lo' := [some (.ref _), some (.int _), some (.int _), some (.int _), some (.int _), some (.int _)]) F dX10_christmases_115 rfl (j_inc _) rfl rfl ?_
            refine v_goto (pc := 118) (tgt := 84) F dX10_christmases_118 (by decide) ?_
            have q := ihp (by omega) μ4 (by rw [fi_f hz]; exact hK)
            exact q
          · rw [hK.1 1 p (by unfold PS; omega)] at hz
            refine v_aload_n (pc := 102) (i := 0) F dX10_christmases_102 rfl rfl ?_
            refine v_getR (pc := 103) (o := 1) F fX10_9 dX10_christmases_103 rfl lm0 ?_
            refine v_topR (y := 1) rfl ?_
            refine v_iload (pc := 106) (i := 5) F dX10_christmases_106 rfl ?_
            refine v_aload_n (pc := 108) (i := 0) F dX10_christmases_108 rfl rfl ?_
            refine v_bipush (pc := 109) (v := nI 8) F dX10_christmases_109 (by decide) ?_
            refine v_callVI (pc := 111) (As := [_]) (rest := [_, _]) (c := 10) F mX10_draw kX10_314 im_X10_draw se_X10_draw dX10_christmases_111 rfl rfl (by decide) (c_X10_draw 8 (by omega) (by omega) _) (by decide) rfl rfl (Nat.le_of_ble_eq_true rfl) lm0 (fun x8 μ8 hp8 => ?_)
            rw [hp8.1, hp8.2]
            have h10 := hK.1 0 10 (by unfold PS; omega)
            refine v_iastN (pc := 114) (k0 := p) F dX10_christmases_114 (lm10_0 lm0) (rfl) (by omega) (by decide) ?_
            refine v_iinc (pc := 115) (i := 5) (v := nI (p + 1)) (lo' := [some (.ref _), some (.int _), some (.int _), some (.int _), some (.int _), some (.int _)]) F dX10_christmases_115 rfl (j_inc _) rfl rfl ?_
            refine v_goto (pc := 118) (tgt := 84) F dX10_christmases_118 (by decide) ?_
            have hF := (drM_F hK).both (c := 1) (j := p) (v := nI (drv (sdN ((fiM (s_goes (cmS (chM n μ i).2 n).1 (cmS (chM n μ i).2 n).2).2 p).1 0 10)) 8))
            have q := ihp (by omega) _ (by rw [fi_t hz]; exact hF)
            rw [← h10] at q
            exact q
      · rw [nI_leI (by omega) (by omega)] at h38_4
        refine v_aload_n (pc := 41) (i := 0) F dX10_christmases_41 rfl rfl ?_
        refine v_bipush (pc := 42) (v := nI 12) F dX10_christmases_42 (by decide) ?_
        refine v_callVI (pc := 44) (As := [_]) (rest := []) (c := 10) F mX10_draw kX10_314 im_X10_draw se_X10_draw dX10_christmases_44 rfl rfl (by decide) (c_X10_draw 12 (by omega) (by omega) _) (by decide) rfl rfl (Nat.le_of_ble_eq_true rfl) lm0 (fun x9 μ9 hp9 => ?_)
        rw [hp9.1, hp9.2]
        refine v_aload_n (pc := 47) (i := 0) F dX10_christmases_47 rfl rfl ?_
        refine v_getR (pc := 48) (o := 6) F fX10_25 dX10_christmases_48 rfl lm0 ?_
        refine v_topR (y := 6) rfl ?_
        refine v_iload (pc := 51) (i := 5) F dX10_christmases_51 rfl ?_
        refine v_ialdN (pc := 53) (k0 := l) F dX10_christmases_53 (lm10_6 lm0) (rfl) (by omega) (by decide) ?_
        refine v_icmp_ge (pc := 54) (tgt := 66) F dX10_christmases_54 (by decide) (fun hd => ?_) (fun hd => ?_)
        · rw [show (drM μ2).1 6 l = μ2.1 6 l from congrFun (j_pI_ne (by decide)) l, hJ.1 6 l (by unfold PS; omega), hJ.1 0 10 (by unfold PS; omega)] at hd
          refine v_iinc (pc := 66) (i := 5) (v := nI (l + 1)) (lo' := [some (.ref _), some (.int _), some (.int _), some (.int _), some (.int _), some (.int _)]) F dX10_christmases_66 rfl (j_inc _) rfl rfl ?_
          refine v_goto (pc := 69) (tgt := 32) F dX10_christmases_69 (by decide) ?_
          have q := ihl (by omega) (drM μ2) (by rw [cm_2]; exact drM_F hJ)
          rw [cm_f (Int32.not_lt.mpr hd)] at q
          exact q
        · rw [show (drM μ2).1 6 l = μ2.1 6 l from congrFun (j_pI_ne (by decide)) l, hJ.1 6 l (by unfold PS; omega), hJ.1 0 10 (by unfold PS; omega)] at hd
          refine v_iload (pc := 57) (i := 4) F dX10_christmases_57 rfl ?_
          refine v_iconst (pc := 59) (v := nI 1) F dX10_christmases_59 (by decide) ?_
          refine v_iload (pc := 60) (i := 5) F dX10_christmases_60 rfl ?_
          refine v_ishl (pc := 62) F dX10_christmases_62 ?_
          refine v_ior (pc := 63) F dX10_christmases_63 ?_
          refine v_istore (pc := 64) (lo' := [some (.ref _), some (.int _), some (.int _), some (.int _), some (.int _), some (.int _)]) F dX10_christmases_64 rfl (Nat.le_of_ble_eq_true rfl) rfl ?_
          refine v_iinc (pc := 66) (i := 5) (v := nI (l + 1)) (lo' := [some (.ref _), some (.int _), some (.int _), some (.int _), some (.int _), some (.int _)]) F dX10_christmases_66 rfl (j_inc _) rfl rfl ?_
          refine v_goto (pc := 69) (tgt := 32) F dX10_christmases_69 (by decide) ?_
          have q := ihl (by omega) (drM μ2) (by rw [cm_2]; exact drM_F hJ)
          rw [cm_t (Int32.not_le.mp hd)] at q
          exact q
  · rw [b2i_0] at hin
    refine v_aload_n (pc := 10) (i := 0) F dX10_christmases_10 rfl rfl ?_
    refine v_bipush (pc := 11) (v := (-2)) F dX10_christmases_11 (by decide) ?_
    refine v_callVI (pc := 13) (As := [_]) (rest := []) (c := 10) F mX10_no kX10_96 im_X10_no se_X10_no dX10_christmases_13 rfl rfl (by decide) (c_X10_no (-2) 2 (by decide) (by decide) _) (by decide) rfl rfl (Nat.le_of_ble_eq_true rfl) lm0 (fun x11 μ11 hp11 => ?_)
    rw [hp11.1, hp11.2]
    refine v_ireturn (pc := 16) F dX10_christmases_16 (rfl) ?_
    simp only [s_christmases, rj, hnn, hin, ↓reduceIte]
    refine ⟨?_, ?_⟩ <;> first | exact trivial | exact rfl | exact Fm.rf
