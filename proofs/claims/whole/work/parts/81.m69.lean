/-! every call keeps the invariant: the rest -/
theorem sw1_7 {m : j_M} {l i : Nat} {v : Int32} : (sw1 m l v).1 7 i = if i = l then v else m.1 7 i := by
  unfold sw1
  rw [j_pI_ne (by decide)]
  by_cases e : i = l
  · subst e; rw [j_pI_at, if_pos rfl]
  · rw [j_pI_off (by omega), j_pI_ne (by decide), if_neg e]
theorem swM_TH {g : Nat → Int32} {ν : j_M} {n : Nat} (h7 : ∀ l, l < n → TH (ν.1 7 l)) (hg : ∀ l, l < n → TH (g l)) : ∀ k, k ≤ n → ∀ l, l < n → TH ((swM g ν k).1 7 l) := by
  intro k
  induction k with
  | zero => intro _ l hl; exact h7 l hl
  | succ k ih =>
    intro hk l hl
    by_cases e : ν.1 7 k = -1
    · rw [swM_n e]; exact ih (by omega) l hl
    · rw [swM_y e, sw1_7]
      by_cases e2 : l = k
      · rw [if_pos e2]; exact hg k (by omega)
      · rw [if_neg e2]; exact ih (by omega) l hl
theorem MI_s_swap {μ : j_M} (h : MI μ) : MI (s_swap μ).2 := by
  obtain ⟨n, hW, hsh, htp, him⟩ := id h
  have hnn := nn_eq hW.1 hW.2.1
  have hg : ∀ l, l < nn μ → TH ((swK μ.1 (nn μ) 8).2 l) := fun l hl => by
    rcases sw_h7 (by rw [hnn]; exact hW) l hl with ⟨-, q⟩ | ⟨s0, s1, -, q1, -, q⟩
    · exact Or.inl q
    · exact Or.inr ⟨s1, q1, q⟩
  refine h.wld n (hW.up (swM_o (by decide) (by decide) _) (fun p hp => ?_) (fun l _ => swM_o (by decide) (by decide) _) (fun l _ => swM_o (by decide) (by decide) _) (fun l hl => ?_)) (by omega) (fun c j q => swM_o (by omega) (by omega) _)
  · show TH ((swM _ μ (nn μ)).1 1 p)
    rw [swM_o (by decide) (by decide)]; exact hW.t p hp
  · exact swM_TH (n := nn μ) (fun l hl => hW.sh (by omega)) hg (nn μ) (Nat.le_refl _) l (by omega)
theorem MI_s_image {μ : j_M} (h : MI μ) : MI (s_image μ).2 := by
  obtain ⟨n, hW, hsh, htp, him⟩ := h
  have f : ∀ c j, c ≠ 14 → ¬ (c = 0 ∧ j = 21) → (KM (j_pI μ 0 21 1) kAll).1 c j = μ.1 c j := fun c j q q2 => (if_neg (fun z => q z.1)).trans (j_pI_off q2)
  have hw : ∀ c j, aAll c j = true → wold (KM (j_pI μ 0 21 1) kAll).1 c j = μ.1 c j := fun c j q => (wold_KM q).trans (j_pI_off (fun z => by rw [z.1, z.2] at q; exact absurd q (by decide)))
  have hn8 := hW.2.1
  show MI (KM (j_pI μ 0 21 1) kAll)
  refine ⟨n, hW.up (f _ _ (by omega) (by omega)) (fun p hp => by rw [f _ _ (by omega) (by omega)]; exact hW.t p hp) (fun l _ => f _ _ (by omega) (by omega)) (fun l _ => f _ _ (by omega) (by omega)) (fun l hl => by rw [f _ _ (by omega) (by omega)]; exact hW.sh hl), fun s hs => ?_, ?_, Or.inr ⟨?_, n, ?_⟩⟩
  · rw [f _ _ (by omega) (by omega), f _ _ (by omega) (by omega)]; exact hsh s hs
  · rw [f _ _ (by omega) (by omega)]; exact htp
  · have e1 : (KM (j_pI μ 0 21 1) kAll).1 0 21 = (j_pI μ 0 21 1).1 0 21 := KM_w (by decide)
    rw [e1, j_pI_at]
  · exact hW.up (hw 0 1 (aA (by omega))) (fun p hp => by rw [hw 1 p (aA (by omega))]; exact hW.t p hp) (fun l hl => hw 2 l (aA (by omega))) (fun l hl => hw 3 l (aA (by omega))) (fun l hl => by rw [hw 7 l (aA (by omega))]; exact hW.sh hl)
theorem MI_s_back {μ : j_M} (h : MI μ) : MI (s_back μ).2 := by
  obtain ⟨n, hW, hsh, htp, him⟩ := id h
  unfold s_back
  by_cases h0 : μ.1 0 21 = 0
  · rw [if_pos h0]; exact MI_rj h
  · rw [if_neg h0]
    obtain ⟨h21, n0, hW0⟩ := him.resolve_left h0
    have hn0 := hW0.2.1
    have a1 : ∀ c j, aAll c j = true → (AM μ aAll).1 c j = wold μ.1 c j := fun c j q => if_pos q
    have a2 : ∀ c j, ¬ aAll c j = true → (AM μ aAll).1 c j = μ.1 c j := fun c j q => if_neg q
    have aN : ∀ c j, ¬ ((c = 1 ∧ j < 12) ∨ (2 ≤ c ∧ c ≤ 7 ∧ j < 8) ∨ (c = 8 ∧ j < 64) ∨ (c = 0 ∧ (j = 1 ∨ j = 9 ∨ j = 10))) → (AM μ aAll).1 c j = μ.1 c j := fun c j q => a2 c j (fun z => q (of_decide_eq_true z))
    have h01 : (AM μ aAll).1 0 1 = nI n0 := (a1 0 1 (aA (by omega))).trans hW0.1
    have b1 : ∀ c j, c ≠ 10 → (bkM (AM μ aAll) (nI 10 + (AM μ aAll).1 0 1) 8).1 c j = (AM μ aAll).1 c j := fun c j q => if_neg (fun z => q z.1)
    show MI (bkM (AM μ aAll) (nI 10 + (AM μ aAll).1 0 1) 8)
    refine h.gen n0 (hW0.up ((b1 _ _ (by omega)).trans (a1 0 1 (aA (by omega)))) (fun p hp => ?_) (fun l hl => (b1 _ _ (by omega)).trans (a1 2 l (aA (by omega)))) (fun l hl => (b1 _ _ (by omega)).trans (a1 3 l (aA (by omega)))) (fun l hl => ?_)) (fun s hs => ?_) ?_ ((b1 _ _ (by omega)).trans (aN _ _ (by omega))) (fun j => (b1 _ _ (by omega)).trans (aN _ _ (by omega)))
    · rw [b1 _ _ (by omega), a1 1 p (aA (by omega))]; exact hW0.t p hp
    · rw [b1 _ _ (by omega), a1 7 l (aA (by omega))]; exact hW0.sh hl
    · rw [b1 11 s (by omega), aN 11 s (by omega)]
      show SH n0 (if 10 = 10 ∧ s < 8 ∧ ¬ (AM μ aAll).1 10 s < nI 10 + (AM μ aAll).1 0 1 then -1 else (AM μ aAll).1 10 s) _
      rw [aN 10 s (by omega), h01, nI_add]
      by_cases c : μ.1 10 s < nI (10 + n0)
      · rw [if_neg (fun z => z.2.2 c)]
        rcases hsh s hs with q | q | ⟨l, hl, q⟩
        · exact Or.inl q
        · exact Or.inr (Or.inl q)
        · rw [q] at c
          have c2 := (nI_ltI (by have := hW.2.1; omega) (by omega)).mp c
          exact Or.inr (Or.inr ⟨l, by omega, q⟩)
      · rw [if_pos ⟨rfl, hs, c⟩]; exact Or.inl rfl
    · rw [b1 _ _ (by omega), aN _ _ (by omega)]; exact htp
theorem MI_s_evening (set : Int32) {μ : j_M} (h : MI μ) : MI (s_evening set μ).2 := by
  obtain ⟨n, hW, hsh, htp, him⟩ := id h
  have hnn := nn_eq hW.1 hW.2.1
  unfold s_evening
  by_cases h1 : inQ (2 ^ nn μ) set = true
  · rw [if_pos h1]
    exact h.wld n (WI_goes hW hnn) (by omega) (fun c j q => goes_W.1 c j (by omega))
  · rw [if_neg h1]; exact MI_rj h
theorem MI_s_christmases (k : Int32) {μ : j_M} (h : MI μ) : MI (s_christmases k μ).2 := by
  obtain ⟨n, hW, hsh, htp, him⟩ := id h
  have hnn := nn_eq hW.1 hW.2.1
  unfold s_christmases
  by_cases h1 : inB 1 40 k = true
  · rw [if_pos h1]
    have q := ch_all (ν := μ) (by rw [hnn]; exact hW) rfl (ix k)
    exact h.wld (nn μ) q.1 (Nat.le_refl _) (fun c j z => q.2.2.1 c j (by omega))
  · rw [if_neg h1]; exact MI_rj h
theorem wold_F {ν ν' : j_M} (h : Fm PS ν ν') : wold ν'.1 = wold ν.1 := wold_fr (fun j => h.1 14 j (by omega))
/-- scratch is nothing to the relation -/
theorem Rel.F {μ ν ν' : j_M} (hM : MI ν) (h : Rel μ ν) (hF : Fm PS ν ν') : Rel μ ν' := by
  have e : ∀ c j, c < 15 → ¬ (c = 0 ∧ ((13 ≤ j ∧ j ≤ 16) ∨ j = 25)) → ν'.1 c j = ν.1 c j := fun c j q q2 => hF.1 c j (by omega)
  have hnn : nn ν' = nn ν := by show ix _ = ix _; rw [e 0 1 (by omega) (by omega)]
  refine ⟨?_, fun s hs => ?_, ?_, fun j hj => (h.rf j hj).trans (e _ _ (by omega) (by omega)).symm, ?_, fun z => ?_⟩
  · rw [hnn]
    exact h.sc.w2 (fun p _ => e _ _ (by omega) (by omega)) (fun c l _ _ _ => e _ _ (by omega) (by omega)) (fun j _ => e _ _ (by omega) (by omega)) (e _ _ (by omega) (by omega)) (e _ _ (by omega) (by omega))
  · obtain ⟨a, b, c⟩ := h.sf s hs
    refine ⟨a.trans (e _ _ (by omega) (by omega)).symm, fun q => ?_, fun j hj => by rw [hF.2]; exact c j hj⟩
    rw [e 10 s (by omega) (by omega)] at q
    exact (b q).trans (e _ _ (by omega) (by omega)).symm
  · exact ⟨h.tq.1.trans (e _ _ (by omega) (by omega)).symm, fun j hj => (h.tq.2 j hj).trans (e _ _ (by omega) (by omega)).symm⟩
  · exact h.kq.1.trans (e _ _ (by omega) (by omega)).symm
  · rw [e 0 21 (by omega) (by omega)] at z
    rw [wold_F hF]
    exact h.kq.2 z
