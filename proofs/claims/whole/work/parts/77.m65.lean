/-! the class: the window -/
theorem nb1_l {t : Nat → Int32} {n e M g : Nat} {F : Nat → j_M} (he : e ≤ n) (h : nb1 t n e M F = .inl g) : g ≤ n := by
  rcases hx : nbr t n e M with _ | x
  · rw [nb1_n hx] at h; cases h; exact (tkF_le he).2
  · rw [nb1_y hx] at h; cases h
theorem nb2_l {t : Nat → Int32} {n e M N g : Nat} {F : Nat → Nat → j_M} (he : e ≤ n) (h : nb2 t n e M N F = .inl g) : g ≤ n := by
  rcases hx : nbr t n e M with _ | x
  · rw [nb2_n hx] at h; cases h; exact (tkF_le he).2
  · rw [nb2_y hx] at h; exact nb1_l (tkT_le he).2 h
theorem nb3_l {t : Nat → Int32} {n e M N K g : Nat} {F : Nat → Nat → Nat → j_M} (he : e ≤ n) (h : nb3 t n e M N K F = .inl g) : g ≤ n := by
  rcases hx : nbr t n e M with _ | x
  · rw [nb3_n hx] at h; cases h; exact (tkF_le he).2
  · rw [nb3_y hx] at h; exact nb2_l (tkT_le he).2 h
theorem st_l {t : Nat → Int32} {n f e g : Nat} {kd : Int32} {μ : j_M} (hf : f ≤ n) (he : e ≤ n) (h : stS t n kd f e μ = .inl g) : g ≤ n := by
  unfold stS at h
  by_cases w0 : isW t f e kd 0 = true
  · rw [if_pos w0] at h; exact nb2_l he h
  rw [if_neg w0] at h
  by_cases w1 : isW t f e kd 1 = true
  · rw [if_pos w1] at h; exact nb1_l he h
  rw [if_neg w1] at h
  by_cases w2 : isW t f e kd 2 = true
  · rw [if_pos w2] at h
    by_cases w8 : nn μ = 8
    · rw [if_pos w8] at h; cases h; exact hf
    · rw [if_neg w8] at h; exact nb3_l he h
  rw [if_neg w2] at h
  by_cases w3 : isW t f e kd 3 = true
  · rw [if_pos w3] at h; exact nb2_l he h
  rw [if_neg w3] at h
  by_cases w4 : isW t f e kd 4 = true
  · rw [if_pos w4] at h; exact nb2_l he h
  rw [if_neg w4] at h
  by_cases w5 : isW t f e kd 5 = true
  · rw [if_pos w5] at h; exact nb2_l he h
  rw [if_neg w5] at h
  cases h; exact hf
theorem MI_wip {ν : j_M} (h : MI ν) : MI (j_pI ν 0 11 (nI 0)) := by
  obtain ⟨n, hW, hsh, htp, him⟩ := h
  have hw : wold (j_pI ν 0 11 (nI 0)).1 = wold ν.1 := by
    funext c j
    unfold wold
    first | exact j_pI_off (by omega) | rfl
  refine ⟨n, hW.up (j_pI_off (by omega)) (fun p hp => by rw [j_pI_off (by omega)]; exact hW.t p hp) (fun l _ => j_pI_off (by omega)) (fun l _ => j_pI_off (by omega)) (fun l hl => by rw [j_pI_off (by omega)]; exact hW.sh hl), fun s hs => ?_, ⟨0, by omega, j_pI_at⟩, ?_⟩
  · rw [j_pI_off (by omega), j_pI_off (by omega)]; exact hsh s hs
  · rw [hw, j_pI_off (by omega)]; exact him
def WLP (o : Sum Nat (Nat × j_M)) (x b t : Nat) (ν μ : j_M) (r : Int32) (μ2 : j_M) : Prop := Fm (PSS x b) μ μ2 ∧ match o with
  | .inl g => g ≤ t ∧ μ2.1 x 3 = nI g
  | .inr q => r = nI q.1 ∧ μ2.1 x 3 = -1 ∧ SQ μ2 b q.2.1 (nn q.2) ∧ Fm PG ν q.2 ∧ q.2.1 0 1 = nI (nn q.2)
def WIN (tp : Nat → Int32) (t x b k a : Nat) (νs ν μ μ' : j_M) : Prop := 2 * k ≤ a ∧ a ≤ t ∧ μ'.1 x 2 = nI a ∧ μ'.1 x 3 = -1 ∧ SQ μ' b νs.1 (nn νs) ∧ (∀ p, p < 12 → TH (νs.1 1 p)) ∧ νs.1 0 1 = nI (nn νs) ∧ Fm PG ν νs ∧ wlS tp t (f251 - k) a k νs = wlS tp t f251 0 0 ν ∧ Fm (PSS x b) μ μ'
theorem WLP.l {tp : Nat → Int32} {t x b g : Nat} {ν μ μ2 : j_M} {r : Int32} (h : wlS tp t f251 0 0 ν = .inl g) (hF : Fm (PSS x b) μ μ2) (hg : g ≤ t) (hv : μ2.1 x 3 = nI g) : WLP (wlS tp t f251 0 0 ν) x b t ν μ r μ2 := by
  rw [h]; exact ⟨hF, hg, hv⟩
theorem WLP.r {tp : Nat → Int32} {t x b : Nat} {ν μ μ2 : j_M} {r : Int32} {q : Nat × j_M} (h : wlS tp t f251 0 0 ν = .inr q) (hF : Fm (PSS x b) μ μ2) (h1 : r = nI q.1) (h2 : μ2.1 x 3 = -1) (h3 : SQ μ2 b q.2.1 (nn q.2)) (h4 : Fm PG ν q.2) (h5 : q.2.1 0 1 = nI (nn q.2)) : WLP (wlS tp t f251 0 0 ν) x b t ν μ r μ2 := by
  rw [h]; exact ⟨hF, h1, h2, h3, h4, h5⟩

set_option maxRecDepth 100000 in
theorem c_X7_read (x : Nat) (hx : j_ob ΛX x 7) (b : Nat) (hb4 : j_ob ΛX b 4) (hxb : x + 2 ≤ b ∨ b + 21 ≤ x) (tp : Nat → Int32) (t : Nat) (μ ν : j_M) (hb : ∀ j, j < t → μ.1 (x + 1) j = tp j) (ht : μ.1 x 1 = nI t) (ht2 : t ≤ 250) (hS : SQ μ b ν.1 (nn ν)) (hTH : ∀ p, p < 12 → TH (ν.1 1 p)) (hn1 : ν.1 0 1 = nI (nn ν))  : Ct yX7_read cX7_read 4 (some .int) 7 ΛX [.ref x, .ref b] μ (pI fun r μ2 => WLP (wlS tp t f251 0 0 ν) x b t ν μ r μ2) := by
  refine Ct.go (lo := [some (.ref x), some (.ref b), none, none]) (by decide) (Nat.le_of_ble_eq_true rfl) rfl rfl (fun X F => ?_)
  have F : Fx X cX7_read RX7 7 (some .int) ΛX := F
  have hn8 := hS.2
  refine v_aload_n (pc := 0) (i := 0) F dX7_read_0 rfl rfl ?_
  refine v_iconst (pc := 1) (v := nI 0) F dX7_read_1 (by decide) ?_
  refine v_put (pc := 2) F fX7_22 dX7_read_2 rfl rfl rfl hx ?_
  refine v_aload_n (pc := 5) (i := 0) F dX7_read_5 rfl rfl ?_
  refine v_iconst (pc := 6) (v := (-1)) F dX7_read_6 (by decide) ?_
  refine v_put (pc := 7) F fX7_15 dX7_read_7 rfl rfl rfl hx ?_
  refine v_iconst (pc := 10) (v := nI 0) F dX7_read_10 (by decide) ?_
  refine v_istore_n (pc := 11) (lo' := [some (.ref _), some (.ref _), some (.int _), _]) F dX7_read_11 rfl rfl (Nat.le_of_ble_eq_true rfl) rfl ?_
  refine v_iconst (pc := 12) (v := nI 1) F dX7_read_12 (by decide) ?_
  refine v_istore_n (pc := 13) (lo' := [some (.ref _), some (.ref _), some (.int _), some (.int _)]) F dX7_read_13 rfl rfl (Nat.le_of_ble_eq_true rfl) rfl ?_
  refine j_up 250 (fun k => ∀ μ' : j_M, (∃ a νs, WIN tp t x b k a νs ν μ μ') → V X _ 14 [some (.ref x), some (.ref b), some (.int (nI k)), some (.int (nI 1))] [] μ') (fun k hk ih μ' hI => ?_) 0 (Nat.zero_le _) _ ⟨0, ν, Nat.le_refl _, Nat.zero_le _, (j_pI_off (by omega)).trans j_pI_at, j_pI_at, SQ_pI (SQ_pI hS (by omega)) (by omega), hTH, hn1, Fm.rf, rfl, (Fm.rf.pI (by omega)).pI (by omega)⟩
  obtain ⟨a, νs, g1, g2, g3, g4, g5, g6, g7, g8, g9, g10⟩ := hI
  have h251 : f251 = 251 := rfl
  have hF0 : 0 < f251 - k := by omega
  have hb1 : ∀ j, j < t → μ'.1 (x + 1) j = tp j := fun j hj => (g10.1 _ _ (by omega)).trans (hb j hj)
  have ht1 : μ'.1 x 1 = nI t := (g10.1 _ _ (by omega)).trans ht
  refine v_iload_n (pc := 14) (i := 3) F dX7_read_14 rfl rfl ?_
  refine v_if_eq (pc := 15) (tgt := 57) F dX7_read_15 (by decide) (fun h15_1 => ?_) (fun h15_1 => ?_)
  · rw [j_eq0 (by omega)] at h15_1
    exact absurd h15_1 (by decide)
  · rw [j_eq0 (by omega)] at h15_1
    refine v_iload_n (pc := 18) (i := 2) F dX7_read_18 rfl rfl ?_
    refine v_sipush (pc := 19) (v := nI 250) F dX7_read_19 (by decide) ?_
    refine v_icmp_ge (pc := 22) (tgt := 57) F dX7_read_22 (by decide) (fun h22_2 => ?_) (fun h22_2 => ?_)
    · rw [nI_leI (by omega) (by omega)] at h22_2
      omega
    · rw [nI_leI (by omega) (by omega)] at h22_2
      refine v_aload_n (pc := 25) (i := 0) F dX7_read_25 rfl rfl ?_
      refine v_aload_n (pc := 26) (i := 1) F dX7_read_26 rfl rfl ?_
      refine v_callVV (pc := 27) (As := [_]) (rest := []) (c := 7) F mX7_readStatement kX7_25 im_X7_readStatement se_X7_readStatement dX7_read_27 rfl rfl (by decide) (c_X7_readStatement x hx b hb4 hxb tp t a μ' νs hb1 ht1 ht2 g3 g2 g4 g5 g6) (by decide) rfl rfl (Nat.le_of_ble_eq_true rfl) hx (fun μ3 hp3 => ?_)
      skip
      rcases hst : stS tp t (tkK tp t a) (tkF tp t a) (tkT tp t a) νs with g | q
      · skip
        have hrd := hp3
        rw [hst] at hrd
        have hgt := st_l (tkF_le g2).2 (tkT_le g2).2 hst
        have hfv : μ3.1 x 3 = nI g := hrd.2
        refine v_iinc (pc := 30) (i := 2) (v := nI (k + 1)) (lo' := [some (.ref _), some (.ref _), some (.int _), some (.int _)]) F dX7_read_30 rfl (j_inc _) rfl rfl ?_
        refine v_aload_n (pc := 33) (i := 0) F dX7_read_33 rfl rfl ?_
        refine v_getI (pc := 34) F fX7_15 dX7_read_34 rfl hx ?_
        refine v_topE (y := nI g) (hfv) ?_
        refine v_iconst (pc := 37) (v := (-1)) F dX7_read_37 (by decide) ?_
        refine v_icmp_ne (pc := 38) (tgt := 52) F dX7_read_38 (by decide) (fun h38_4 => ?_) (fun h38_4 => ?_)
        · rw [j_nm1 (by omega)] at h38_4
          refine v_iconst (pc := 52) (v := nI 0) F dX7_read_52 (by decide) ?_
          refine v_istore_n (pc := 53) (lo' := [some (.ref _), some (.ref _), some (.int _), some (.int _)]) F dX7_read_53 rfl rfl (Nat.le_of_ble_eq_true rfl) rfl ?_
          refine v_goto (pc := 54) (tgt := 14) F dX7_read_54 (by decide) ?_
          refine v_iload_n (pc := 14) (i := 3) F dX7_read_14 rfl rfl ?_
          refine v_if_eq (pc := 15) (tgt := 57) F dX7_read_15 (by decide) (fun h15_5 => ?_) (fun h15_5 => ?_)
          · rw [j_eq0 (by omega)] at h15_5
            refine v_iload_n (pc := 57) (i := 2) F dX7_read_57 rfl rfl ?_
            refine v_ireturn (pc := 58) F dX7_read_58 (rfl) ?_
            refine WLP.l (by rw [← g9]; exact wl_l hF0 hst) (g10.tr hrd.1) hgt hfv
          · rw [j_eq0 (by omega)] at h15_5
            exact absurd h15_5 (by decide)
        · rw [j_nm1 (by omega)] at h38_4
          exact h38_4.elim
      · skip
        have hrd := hp3
        rw [hst] at hrd
        have hpo := st_pos g5.2 g2 hst
        obtain ⟨r1, r2, r3, r4⟩ : Fm (PSS x b) μ' μ3 ∧ μ3.1 x 3 = -1 ∧ μ3.1 x 2 = nI q.1 ∧ SQ μ3 b q.2.1 (nn q.2) := hrd
        have hb2 : ∀ j, j < t → μ3.1 (x + 1) j = tp j := fun j hj => (r1.1 _ _ (by omega)).trans (hb1 j hj)
        have ht3 : μ3.1 x 1 = nI t := (r1.1 _ _ (by omega)).trans ht1
        obtain ⟨hPG, n9, hn9, hn9e⟩ := SE_G g5.2 g7 hpo.2.2
        have hnq : q.2.1 0 1 = nI (nn q.2) := by rw [nn_eq hn9e hn9]; exact hn9e
        refine v_iinc (pc := 30) (i := 2) (v := nI (k + 1)) (lo' := [some (.ref _), some (.ref _), some (.int _), some (.int _)]) F dX7_read_30 rfl (j_inc _) rfl rfl ?_
        refine v_aload_n (pc := 33) (i := 0) F dX7_read_33 rfl rfl ?_
        refine v_getI (pc := 34) F fX7_15 dX7_read_34 rfl hx ?_
        refine v_topE (y := (-1)) (r2) ?_
        refine v_iconst (pc := 37) (v := (-1)) F dX7_read_37 (by decide) ?_
        refine v_icmp_ne (pc := 38) (tgt := 52) F dX7_read_38 (by decide) (fun h38_6 => ?_) (fun h38_6 => ?_)
        · skip
          exact absurd rfl h38_6
        · skip
          refine v_aload_n (pc := 41) (i := 0) F dX7_read_41 rfl rfl ?_
          refine v_callVI (pc := 42) (As := []) (rest := []) (c := 7) F mX7_readSemicolon kX7_29 im_X7_readSemicolon se_X7_readSemicolon dX7_read_42 rfl rfl (by decide) (c_X7_readSemicolon x hx tp t q.1 _ hb2 ht3 ht2 r3 hpo.2.1 r2) (by decide) rfl rfl (Nat.le_of_ble_eq_true rfl) hx (fun x7 μ7 hp7 => ?_)
          skip
          rcases hp7.2 with ⟨s0, s1, s2⟩ | ⟨s0, s1, s2, s3⟩ | ⟨s0, s1, s2, s3⟩
          · skip
            refine v_topE (y := nI 0) s0 ?_
            have hw : wlS tp t f251 0 0 ν = .inr (k + 1, q.2) := by rw [← g9]; exact wl_e hF0 hst s1
            have hF9 := hp7.1
            refine v_if_eq (pc := 45) (tgt := 52) F dX7_read_45 (by decide) (fun h45_8 => ?_) (fun h45_8 => ?_)
            · rw [j_eq0 (by omega)] at h45_8
              refine v_iconst (pc := 52) (v := nI 0) F dX7_read_52 (by decide) ?_
              refine v_istore_n (pc := 53) (lo' := [some (.ref _), some (.ref _), some (.int _), some (.int _)]) F dX7_read_53 rfl rfl (Nat.le_of_ble_eq_true rfl) rfl ?_
              refine v_goto (pc := 54) (tgt := 14) F dX7_read_54 (by decide) ?_
              refine v_iload_n (pc := 14) (i := 3) F dX7_read_14 rfl rfl ?_
              refine v_if_eq (pc := 15) (tgt := 57) F dX7_read_15 (by decide) (fun h15_9 => ?_) (fun h15_9 => ?_)
              · rw [j_eq0 (by omega)] at h15_9
                refine v_iload_n (pc := 57) (i := 2) F dX7_read_57 rfl rfl ?_
                refine v_ireturn (pc := 58) F dX7_read_58 (rfl) ?_
                exact WLP.r hw ((g10.tr r1).tr (hF9.mono (fun c j z => Or.inl z))) rfl s2 (SQ_T hxb r4 hF9) (g8.tr hPG) hnq
              · rw [j_eq0 (by omega)] at h15_9
                exact absurd h15_9 (by decide)
            · rw [j_eq0 (by omega)] at h45_8
              exact absurd h45_8 (by decide)
          · skip
            refine v_topE (y := nI 0) s0 ?_
            have hw : wlS tp t f251 0 0 ν = .inl (tkF tp t q.1) := by rw [← g9]; exact wl_x hF0 hst s1 s2
            have hF9 := hp7.1
            refine v_if_eq (pc := 45) (tgt := 52) F dX7_read_45 (by decide) (fun h45_10 => ?_) (fun h45_10 => ?_)
            · rw [j_eq0 (by omega)] at h45_10
              refine v_iconst (pc := 52) (v := nI 0) F dX7_read_52 (by decide) ?_
              refine v_istore_n (pc := 53) (lo' := [some (.ref _), some (.ref _), some (.int _), some (.int _)]) F dX7_read_53 rfl rfl (Nat.le_of_ble_eq_true rfl) rfl ?_
              refine v_goto (pc := 54) (tgt := 14) F dX7_read_54 (by decide) ?_
              refine v_iload_n (pc := 14) (i := 3) F dX7_read_14 rfl rfl ?_
              refine v_if_eq (pc := 15) (tgt := 57) F dX7_read_15 (by decide) (fun h15_11 => ?_) (fun h15_11 => ?_)
              · rw [j_eq0 (by omega)] at h15_11
                refine v_iload_n (pc := 57) (i := 2) F dX7_read_57 rfl rfl ?_
                refine v_ireturn (pc := 58) F dX7_read_58 (rfl) ?_
                exact WLP.l hw ((g10.tr r1).tr (hF9.mono (fun c j z => Or.inl z))) (tkF_le hpo.2.1).2 s3
              · rw [j_eq0 (by omega)] at h15_11
                exact absurd h15_11 (by decide)
            · rw [j_eq0 (by omega)] at h45_10
              exact absurd h45_10 (by decide)
          · skip
            refine v_topE (y := nI 1) s0 ?_
            have hw := g9
            rw [wl_s hF0 hst s1] at hw
            have hF9 := hp7.1
            refine v_if_eq (pc := 45) (tgt := 52) F dX7_read_45 (by decide) (fun h45_12 => ?_) (fun h45_12 => ?_)
            · rw [j_eq0 (by omega)] at h45_12
              exact absurd h45_12 (by decide)
            · rw [j_eq0 (by omega)] at h45_12
              refine v_iconst (pc := 48) (v := nI 1) F dX7_read_48 (by decide) ?_
              refine v_goto (pc := 49) (tgt := 53) F dX7_read_49 (by decide) ?_
              refine v_istore_n (pc := 53) (lo' := [some (.ref _), some (.ref _), some (.int _), some (.int _)]) F dX7_read_53 rfl rfl (Nat.le_of_ble_eq_true rfl) rfl ?_
              refine v_goto (pc := 54) (tgt := 14) F dX7_read_54 (by decide) ?_
              have hsm := tk_semi s1 hpo.2.1
              refine ih (by omega) _ ⟨tkT tp t q.1, q.2, by omega, (tkT_le hpo.2.1).2, s3, s2, SQ_T hxb r4 hF9, SE_TH hpo.2.2 g6, hnq, g8.tr hPG, ?_, (g10.tr r1).tr (hF9.mono (fun c j z => Or.inl z))⟩
              rw [← hw]
              rfl
