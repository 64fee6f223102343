/-! every call keeps the invariant -/
theorem MI_s_element (s i : Int32) {μ : j_M} (h : MI μ) : MI (s_element s i μ).2 := by
  unfold s_element
  (repeat' split) <;> first | exact h | exact MI_rj h
theorem MI_s_holds (s : Int32) {μ : j_M} (h : MI μ) : MI (s_holds s μ).2 := by
  unfold s_holds
  (repeat' split) <;> first | exact h | exact MI_rj h
theorem MI_s_sortAt (p : Int32) {μ : j_M} (h : MI μ) : MI (s_sortAt p μ).2 := by
  unfold s_sortAt
  (repeat' split) <;> first | exact h | exact MI_rj h
theorem MI_s_lookerOf (l what : Int32) {μ : j_M} (h : MI μ) : MI (s_lookerOf l what μ).2 := by
  unfold s_lookerOf
  (repeat' split) <;> first | exact h | exact MI_rj h
theorem MI_s_left (set : Int32) {μ : j_M} (h : MI μ) : MI (s_left set μ).2 := by
  unfold s_left
  (repeat' split) <;> first | exact h | exact MI_rj h
theorem MI_s_taken (set l : Int32) {μ : j_M} (h : MI μ) : MI (s_taken set l μ).2 := by
  unfold s_taken
  (repeat' split) <;> first | exact h | exact MI_rj h
theorem MI_s_glad (set what : Int32) {μ : j_M} (h : MI μ) : MI (s_glad set what μ).2 := by
  unfold s_glad
  (repeat' split) <;> first | exact h | exact MI_rj h
theorem MI_s_order (set i : Int32) {μ : j_M} (h : MI μ) : MI (s_order set i μ).2 := by
  unfold s_order
  (repeat' split) <;> first | exact h | exact MI_rj h
theorem MI_s_empty (set : Int32) {μ : j_M} (h : MI μ) : MI (s_empty set μ).2 := by
  unfold s_empty
  (repeat' split) <;> first | exact h | exact MI_rj h
theorem MI_s_gladOnes (set : Int32) {μ : j_M} (h : MI μ) : MI (s_gladOnes set μ).2 := by
  unfold s_gladOnes
  (repeat' split) <;> first | exact h | exact MI_rj h
theorem MI_s_unlike (set : Int32) {μ : j_M} (h : MI μ) : MI (s_unlike set μ).2 := by
  unfold s_unlike
  (repeat' split) <;> first | exact h | exact MI_rj h
theorem MI_s_without (l : Int32) {μ : j_M} (h : MI μ) : MI (s_without l μ).2 := by
  unfold s_without
  (repeat' split) <;> first | exact h | exact MI_rj h
theorem MI_s_away (l what : Int32) {μ : j_M} (h : MI μ) : MI (s_away l what μ).2 := by
  unfold s_away
  (repeat' split) <;> first | exact h | exact MI_rj h
theorem MI_s_crowd (k what : Int32) {μ : j_M} (h : MI μ) : MI (s_crowd k what μ).2 := by
  unfold s_crowd
  (repeat' split) <;> first | exact h | exact MI_rj h
theorem MI_s_exchanged (l o : Int32) {μ : j_M} (h : MI μ) : MI (s_exchanged l o μ).2 := by
  unfold s_exchanged
  (repeat' split) <;> first | exact h | exact MI_rj h
theorem MI_s_bestPair  {μ : j_M} (h : MI μ) : MI (s_bestPair  μ).2 := by
  unfold s_bestPair
  (repeat' split) <;> first | exact h | exact MI_rj h
theorem MI_s_oldest (l : Int32) {μ : j_M} (h : MI μ) : MI (s_oldest l μ).2 := by
  unfold s_oldest
  (repeat' split) <;> first | exact h | exact MI_rj h
theorem MI_s_kinds (set l taken what : Int32) {μ : j_M} (h : MI μ) : MI (s_kinds set l taken what μ).2 := by
  unfold s_kinds
  (repeat' split) <;> first | exact h | exact MI_rj h
theorem MI_s_says (s k : Int32) {μ : j_M} (h : MI μ) : MI (s_says s k μ).2 := by
  unfold s_says
  (repeat' split) <;> first | exact h | exact MI_rj h
theorem MI_s_twice (set then_ : Int32) {μ : j_M} (h : MI μ) : MI (s_twice set then_ μ).2 := by
  unfold s_twice
  (repeat' split) <;> first | exact h | exact MI_rj h
theorem MI_s_places  {μ : j_M} (h : MI μ) : MI (s_places  μ).2 := by
  unfold s_places
  (repeat' split) <;> first | exact h | exact MI_rj h
theorem MI_s_sorts (so what : Int32) {μ : j_M} (h : MI μ) : MI (s_sorts so what μ).2 := by
  unfold s_sorts
  (repeat' split) <;> first | exact h | exact MI_rj h
theorem MI_s_rare (what : Int32) {μ : j_M} (h : MI μ) : MI (s_rare what μ).2 := by
  unfold s_rare
  (repeat' split) <;> first | exact h | exact MI_rj h
theorem MI_s_first (what : Int32) {μ : j_M} (h : MI μ) : MI (s_first what μ).2 := by
  unfold s_first
  (repeat' split) <;> first | exact h | exact MI_rj h
theorem MI_s_who (left what : Int32) {μ : j_M} (h : MI μ) : MI (s_who left what μ).2 := by
  unfold s_who
  (repeat' split) <;> first | exact h | exact MI_rj h
theorem MI_s_judge (s n : Int32) {μ : j_M} (h : MI μ) : MI (s_judge s n μ).2 := by
  unfold s_judge
  (repeat' split) <;> first | exact h | exact MI_rj h
theorem MI_s_next_ (l : Int32) {μ : j_M} (h : MI μ) : MI (s_next_ l μ).2 := by
  unfold s_next_
  (repeat' split) <;> first | exact h | exact MI_rj h
theorem MI_s_swapped  {μ : j_M} (h : MI μ) : MI (s_swapped  μ).2 := by
  unfold s_swapped
  (repeat' split) <;> first | exact h | exact MI_rj h
theorem MI_s_status (what : Int32) {μ : j_M} (h : MI μ) : MI (s_status what μ).2 := by
  unfold s_status
  (repeat' split) <;> first | exact h | exact MI_rj h
theorem MI_s_odds (p : Int32) {μ : j_M} (h : MI μ) : MI (s_odds p μ).2 := by
  unfold s_odds
  (repeat' split) <;> first | exact h | exact MI_rj h
theorem MI_s_likely (l : Int32) {μ : j_M} (h : MI μ) : MI (s_likely l μ).2 := by
  unfold s_likely
  (repeat' split) <;> first | exact h | exact MI_rj h
theorem MI_s_gladOdds (m : Int32) {μ : j_M} (h : MI μ) : MI (s_gladOdds m μ).2 := by
  unfold s_gladOdds
  (repeat' split) <;> first | exact h | exact MI_rj h
theorem MI_s_meanLeft  {μ : j_M} (h : MI μ) : MI (s_meanLeft  μ).2 := by
  unfold s_meanLeft
  (repeat' split) <;> first | exact h | exact MI_rj h
theorem MI_s_setOut (set i : Int32) {μ : j_M} (h : MI μ) : MI (s_setOut set i μ).2 := by
  unfold s_setOut
  (repeat' split) <;> first | exact h | exact MI_rj h
theorem MI.tp {ν : j_M} {t : Nat} (h : MI ν) (ht : t ≤ 250) : MI (j_pI ν 0 11 (nI t)) := by
  obtain ⟨n, hW, hsh, htp, him⟩ := id h
  exact h.gen n (hW.up (j_pI_off (by omega)) (fun p hp => by rw [j_pI_off (by omega)]; exact hW.t p hp) (fun l _ => j_pI_off (by omega)) (fun l _ => j_pI_off (by omega)) (fun l hl => by rw [j_pI_off (by omega)]; exact hW.sh hl)) (fun s hs => by rw [j_pI_off (by omega), j_pI_off (by omega)]; exact hsh s hs) ⟨t, ht, j_pI_at⟩ (j_pI_off (by omega)) (fun j => j_pI_off (by omega))
theorem MI_s_row (s so n : Int32) {μ : j_M} (h : MI μ) : MI (s_row s so n μ).2 := by
  unfold s_row
  by_cases h1 : inQ 8 s = true
  · rw [if_pos h1]
    by_cases h2 : inQ 5 so = true
    · rw [if_pos h2]
      by_cases h3 : inQ 41 n = true
      · rw [if_pos h3]
        obtain ⟨k2, hk2, e2⟩ := inR_of (by decide) h2
        obtain ⟨k3, hk3, e3⟩ := inR_of (by decide) h3
        refine h.shf (k := ix s) (fun c j q => ?_) ?_
        · show (j_pI (j_pI μ 10 (ix s) so) 11 (ix s) n).1 c j = _
          rw [j_pI_off (by omega), j_pI_off (by omega)]
        · show SH _ ((j_pI (j_pI μ 10 (ix s) so) 11 (ix s) n).1 10 (ix s)) ((j_pI (j_pI μ 10 (ix s) so) 11 (ix s) n).1 11 (ix s))
          rw [j_pI_at, j_pI_off (by omega), j_pI_at]
          exact Or.inr (Or.inl ⟨⟨k2, hk2, e2⟩, k3, by omega, e3⟩)
      · rw [if_neg h3]; exact MI_rj h
    · rw [if_neg h2]; exact MI_rj h
  · rw [if_neg h1]; exact MI_rj h
theorem MI_s_set (s i : Int32) (v : Int64) {μ : j_M} (h : MI μ) : MI (s_set s i v μ).2 := by
  unfold s_set
  (repeat' split) <;> first | exact h | exact MI_rj h | exact h.fr (fun c j _ => rfl)
theorem MI_s_copy (p q i j n : Int32) {μ : j_M} (h : MI μ) : MI (s_copy p q i j n μ).2 := by
  unfold s_copy
  (repeat' split) <;> first | exact h | exact MI_rj h | exact h.fr (fun c j _ => rfl)
theorem MI_s_show (s l : Int32) {μ : j_M} (h : MI μ) : MI (s_show s l μ).2 := by
  have key : ∀ v, SH (nn μ) v (μ.1 11 (ix s)) → MI (j_pI μ 10 (ix s) v) := fun v hv => h.shf (k := ix s) (fun c j q => j_pI_off (by omega)) (by rw [j_pI_at, j_pI_off (by omega)]; exact hv)
  unfold s_show
  by_cases h1 : inQ 8 s = true
  · rw [if_pos h1]
    by_cases h2 : l = -1
    · rw [if_pos h2]; exact key _ (Or.inl rfl)
    · rw [if_neg h2]
      by_cases h3 : inQ (nn μ) l = true
      · rw [if_pos h3]
        obtain ⟨k, hk, e⟩ := inR_of (by have := h.n8; omega) h3
        exact key _ (Or.inr (Or.inr ⟨ix l, by rw [e, ix_nI (by have := h.n8; omega)]; exact hk, rfl⟩))
      · rw [if_neg h3]; exact MI_rj h
  · rw [if_neg h1]; exact MI_rj h
theorem MI_s_place (p so : Int32) {μ : j_M} (h : MI μ) : MI (s_place p so μ).2 := by
  unfold s_place
  by_cases h1 : inQ 12 p = true
  · rw [if_pos h1]
    by_cases h2 : inM so = true
    · rw [if_pos h2]; exact h.th (inM_TH h2)
    · rw [if_neg h2]; exact MI_rj h
  · rw [if_neg h1]; exact MI_rj h
theorem MI_s_looker (k a g : Int32) {μ : j_M} (h : MI μ) : MI (s_looker k a g μ).2 := by
  unfold s_looker
  by_cases h1 : inQ 6 k = true
  · rw [if_pos h1]
    by_cases h2 : inQ 8 a = true
    · rw [if_pos h2]
      by_cases h3 : inQ 100 g = true
      · rw [if_pos h3]
        by_cases h4 : nn μ = 8
        · rw [if_pos h4]; exact MI_rj h
        · rw [if_neg h4]
          obtain ⟨k1, hk1, rfl⟩ := inR_of (by decide) h1
          obtain ⟨k2, hk2, rfl⟩ := inR_of (by decide) h2
          exact h.nl h4 hk1 hk2
      · rw [if_neg h3]; exact MI_rj h
    · rw [if_neg h2]; exact MI_rj h
  · rw [if_neg h1]; exact MI_rj h
theorem MI_s_likes (l so is : Int32) {μ : j_M} (h : MI μ) : MI (s_likes l so is μ).2 := by
  unfold s_likes
  by_cases h1 : inQ (nn μ) l = true
  · rw [if_pos h1]
    by_cases h2 : inQ 8 so = true
    · rw [if_pos h2]; exact MI_pI h (by omega)
    · rw [if_neg h2]; exact MI_rj h
  · rw [if_neg h1]; exact MI_rj h
theorem MI_s_tell (l what v : Int32) {μ : j_M} (h : MI μ) : MI (s_tell l what v μ).2 := by
  unfold s_tell
  (repeat' split) <;> first | exact h | exact MI_rj h | exact MI_pI h (by omega) | exact h.s7 (inM_TH (by assumption))
theorem MI_s_seed (v : Int32) {μ : j_M} (h : MI μ) : MI (s_seed v μ).2 := MI_pI h (by omega)
theorem MI_s_wipe {μ : j_M} (h : MI μ) : MI (s_wipe μ).2 := h.tp (t := 0) (by omega)
theorem MI_s_feed (c : Int32) {μ : j_M} (h : MI μ) : MI (s_feed c μ).2 := by
  obtain ⟨n, hW, hsh, ⟨t, ht, et⟩, him⟩ := id h
  unfold s_feed
  by_cases h1 : inQ 256 c = true
  · rw [if_pos h1]
    by_cases h2 : ix (μ.1 0 11) = 250
    · rw [if_pos h2]; exact MI_rj h
    · rw [if_neg h2]
      rw [et, ix_nI (by omega)] at h2
      rw [et, ix_nI (by omega)]
      exact MI_pI (h.tp (t := t + 1) (by omega)) (by omega)
  · rw [if_neg h1]; exact MI_rj h
theorem MI_s_window {μ : j_M} (h : MI μ) : MI (s_window μ).2 := by
  unfold s_window
  rcases e : wlS (μ.1 9) (ix (μ.1 0 11)) f251 0 0 μ with g | q
  · exact MI_pI (h.tp (t := 0) (by omega)) (by omega)
  · exact (MI_wl _ _ _ _ _ (Nat.zero_le _) h e).tp (t := 0) (by omega)
