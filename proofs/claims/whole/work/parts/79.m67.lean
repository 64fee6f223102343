/-! what every call keeps of the reference's memory -/
abbrev PM0 (c j : Nat) : Prop := (4 ≤ c ∧ c ≤ 6) ∨ c = 8 ∨ c = 9 ∨ c = 12 ∨ c = 13 ∨ 15 ≤ c ∨ (c = 0 ∧ j ≠ 1 ∧ j ≠ 11 ∧ j ≠ 21)
theorem wold_fr {ν ν' : j_M} (h : ∀ j, ν'.1 14 j = ν.1 14 j) : wold ν'.1 = wold ν.1 := by
  funext c j
  exact h _
theorem MI.gen {ν ν' : j_M} (h : MI ν) (n : Nat) (hW : WI ν'.1 n) (hsh : ∀ s, s < 8 → SH n (ν'.1 10 s) (ν'.1 11 s)) (e11 : ∃ t, t ≤ 250 ∧ ν'.1 0 11 = nI t) (e21 : ν'.1 0 21 = ν.1 0 21) (e14 : ∀ j, ν'.1 14 j = ν.1 14 j) : MI ν' := by
  obtain ⟨-, -, -, -, him⟩ := h
  refine ⟨n, hW, hsh, e11, ?_⟩
  rw [wold_fr e14, e21]; exact him
theorem MI.fr {ν ν' : j_M} (h : MI ν) (e : ∀ c j, ¬ PM0 c j → ν'.1 c j = ν.1 c j) : MI ν' := by
  obtain ⟨n, hW, hsh, htp, him⟩ := id h
  refine h.gen n (hW.up (e _ _ (by omega)) (fun p hp => by rw [e _ _ (by omega)]; exact hW.t p hp) (fun l _ => e _ _ (by omega)) (fun l _ => e _ _ (by omega)) (fun l hl => by rw [e _ _ (by omega)]; exact hW.sh hl)) (fun s hs => by rw [e _ _ (by omega), e _ _ (by omega)]; exact hsh s hs) ?_ (e _ _ (by omega)) (fun j => e _ _ (by omega))
  rw [e _ _ (by omega)]; exact htp
theorem MI.F {ν ν' : j_M} (h : MI ν) (hF : Fm PS ν ν') : MI ν' := h.fr (fun c j q => hF.1 c j (fun z => q (by omega)))
theorem MI_rj {ν : j_M} (h : MI ν) {c : Int32} {k : Nat} : MI (rj c k ν).2 := h.fr (fun c j q => j_pI_off (by omega))
theorem MI_pI {ν : j_M} {c j : Nat} {v : Int32} (h : MI ν) (hp : PM0 c j) : MI (j_pI ν c j v) := h.fr (fun a b q => j_pI_off (fun z => q (by rw [z.1, z.2]; exact hp)))
theorem SH.up {n m : Nat} {h len : Int32} (q : SH n h len) (hm : n ≤ m) : SH m h len := by
  rcases q with q | q | ⟨l, hl, q⟩
  · exact Or.inl q
  · exact Or.inr (Or.inl q)
  · exact Or.inr (Or.inr ⟨l, by omega, q⟩)
theorem MI.wld {ν ν' : j_M} (h : MI ν) (n : Nat) (hW : WI ν'.1 n) (hle : nn ν ≤ n) (e : ∀ c j, (c = 10 ∨ c = 11 ∨ c = 14 ∨ (c = 0 ∧ (j = 11 ∨ j = 21))) → ν'.1 c j = ν.1 c j) : MI ν' := by
  obtain ⟨m, hWm, hsh, htp, him⟩ := id h
  have hm : nn ν = m := nn_eq hWm.1 hWm.2.1
  refine h.gen n hW (fun s hs => ?_) ?_ (e _ _ (by omega)) (fun j => e _ _ (by omega))
  · rw [e _ _ (by omega), e _ _ (by omega)]; exact (hsh s hs).up (by omega)
  · rw [e _ _ (by omega)]; exact htp
theorem MI.shf {ν ν' : j_M} {k : Nat} (h : MI ν) (e : ∀ c j, ¬ ((c = 10 ∨ c = 11) ∧ j = k) → ν'.1 c j = ν.1 c j) (hs : SH (nn ν) (ν'.1 10 k) (ν'.1 11 k)) : MI ν' := by
  obtain ⟨m, hW, hsh, htp, him⟩ := id h
  have hm : nn ν = m := nn_eq hW.1 hW.2.1
  refine h.gen m (hW.up (e _ _ (by omega)) (fun p hp => by rw [e _ _ (by omega)]; exact hW.t p hp) (fun l _ => e _ _ (by omega)) (fun l _ => e _ _ (by omega)) (fun l hl => by rw [e _ _ (by omega)]; exact hW.sh hl)) (fun s hs8 => ?_) ?_ (e _ _ (by omega)) (fun j => e _ _ (by omega))
  · by_cases c : s = k
    · subst c; rw [← hm]; exact hs
    · rw [e _ _ (by omega), e _ _ (by omega)]; exact hsh s hs8
  · rw [e _ _ (by omega)]; exact htp
theorem MI.th {ν : j_M} {p : Nat} {v : Int32} (h : MI ν) (hv : TH v) : MI (j_pI ν 1 p v) := by
  obtain ⟨m, hW, hsh, htp, him⟩ := id h
  have hm : nn ν = m := nn_eq hW.1 hW.2.1
  refine h.wld m (hW.up (j_pI_off (by omega)) (fun q hq => ?_) (fun l _ => j_pI_off (by omega)) (fun l _ => j_pI_off (by omega)) (fun l hl => by rw [j_pI_off (by omega)]; exact hW.sh hl)) (by omega) (fun c j q => j_pI_off (by omega))
  by_cases c : q = p
  · subst c; rw [j_pI_at]; exact hv
  · rw [j_pI_off (by omega)]; exact hW.t q hq
theorem MI.s7 {ν : j_M} {l : Nat} {v : Int32} (h : MI ν) (hv : TH v) : MI (j_pI ν 7 l v) := by
  obtain ⟨m, hW, hsh, htp, him⟩ := id h
  have hm : nn ν = m := nn_eq hW.1 hW.2.1
  refine h.wld m (hW.up (j_pI_off (by omega)) (fun q hq => by rw [j_pI_off (by omega)]; exact hW.t q hq) (fun l _ => j_pI_off (by omega)) (fun l _ => j_pI_off (by omega)) (fun i hi => ?_)) (by omega) (fun c j q => j_pI_off (by omega))
  by_cases c : i = l
  · subst c; rw [j_pI_at]; exact hv
  · rw [j_pI_off (by omega)]; exact hW.sh hi
theorem MI.nl {ν : j_M} {k a : Nat} {g : Int32} (h : MI ν) (h8 : ¬ nn ν = 8) (hk : k < 6) (ha : a < 8) : MI (m_nl ν (nn ν) (nI k) (nI a) g) := by
  obtain ⟨m, hW, hsh, htp, him⟩ := id h
  have hm : nn ν = m := nn_eq hW.1 hW.2.1
  have hm8 := hW.2.1
  obtain ⟨g2, g3, g4, g5, g6, g7⟩ := nlW_g (w := ν.1) (n := nn ν) (k := nI k) (a := nI a) (g := g)
  refine h.wld (nn ν + 1) ⟨nl_1, by omega, fun p hp => by rw [nl_W, nlW_o (by omega) (by omega) (by omega)]; exact hW.t p hp, fun l hl => ?_⟩ (by omega) (fun c j q => by rw [nl_W]; exact nlW_o (by omega) (by omega) (by omega))
  rw [nl_W]
  by_cases c : l = nn ν
  · subst c; exact ⟨⟨k, hk, g2⟩, ⟨a, ha, g3⟩, by rw [g7]; exact Or.inl rfl⟩
  · rw [nlW_o (by omega) (by omega) (by omega), nlW_o (by omega) (by omega) (by omega), nlW_o (by omega) (by omega) (by omega)]
    exact hW.2.2.2 l (by omega)
theorem MI_SE {ν m : j_M} (h : MI ν) (hs : SE ν m) : MI m := by
  rcases hs with ⟨x, v, h1, h2, rfl⟩ | ⟨x, h1, rfl⟩ | ⟨h8, x, v, g, h1, h2, h3, rfl⟩ | ⟨x, v, h1, h2, rfl⟩ | ⟨x, v, h1, h2, rfl⟩ | ⟨x, v, h1, h2, rfl⟩
  · exact h.th (Or.inr ⟨v, h2, rfl⟩)
  · exact h.th (Or.inl rfl)
  · exact h.nl h8 h1 h2
  · exact MI_pI h (by omega)
  · exact MI_pI h (by omega)
  · exact h.s7 (Or.inr ⟨v, h2, rfl⟩)
theorem MI_wl {t : Nat → Int32} {n : Nat} : ∀ F a k (ν : j_M) (q : Nat × j_M), a ≤ n → MI ν → wlS t n F a k ν = .inr q → MI q.2 := by
  intro F
  induction F with
  | zero => intro a k ν q _ _ h; cases h
  | succ F ih =>
    intro a k ν q ha hM h
    rcases hst : stS t n (tkK t n a) (tkF t n a) (tkT t n a) ν with g | p
    · rw [wl_l (by omega) hst] at h; cases h
    · have hp := st_pos hM.n8 ha hst
      have hM2 := MI_SE hM hp.2.2
      by_cases h1 : tkK t n p.1 = nI 101
      · rw [wl_e (by omega) hst h1] at h; cases h; exact hM2
      · by_cases h2 : tkK t n p.1 = nI 59
        · rw [wl_s (by omega) hst h2] at h
          exact ih _ _ _ _ (tkT_le hp.2.1).2 hM2 h
        · rw [wl_x (by omega) hst h1 h2] at h; cases h
theorem inM_TH {v : Int32} (h : inM v = true) : TH v := by
  by_cases h1 : v = -1
  · exact Or.inl h1
  by_cases h2 : inQ 8 v = true
  · obtain ⟨k, hk, e⟩ := inR_of (by decide) h2
    exact Or.inr ⟨k, hk, e⟩
  · exact absurd h (inM_3 h1 h2)
