/-! the class: what a step does to the relation -/
abbrev PWd (c j : Nat) : Prop := c = 1 ∨ (2 ≤ c ∧ c ≤ 8) ∨ (c = 0 ∧ (j = 1 ∨ j = 9 ∨ j = 10))
theorem SF.keep {μ m ν ν' : j_M} {s : Nat} (h : SF μ ν s) (h1 : ∀ j, m.1 (104 + 2 * s) j = μ.1 (104 + 2 * s) j) (h2 : m.2 (105 + 2 * s) = μ.2 (105 + 2 * s)) (g1 : ν'.1 10 s = ν.1 10 s) (g2 : ν'.1 11 s = ν.1 11 s) (g3 : ∀ j, j < 40 → ν'.2 12 (40 * s + j) = ν.2 12 (40 * s + j)) : SF m ν' s := by
  obtain ⟨a, b, c⟩ := h
  refine ⟨(h1 1).trans (a.trans g1.symm), fun z => ?_, fun j hj => ?_⟩
  · rw [g1] at z
    exact (h1 2).trans ((b z).trans g2.symm)
  · rw [h2, g3 j hj]; exact c j hj
theorem TQ.keep {μ m ν ν' : j_M} (h : TQ μ ν) (h1 : m.1 101 1 = μ.1 101 1) (h2 : m.1 102 = μ.1 102) (g1 : ν'.1 0 11 = ν.1 0 11) (g2 : ν'.1 9 = ν.1 9) : TQ m ν' := ⟨h1.trans (h.1.trans g1.symm), fun j hj => by rw [h2, g2]; exact h.2 j hj⟩
theorem RF.keep {μ m ν ν' : j_M} (h : RF μ ν) (h1 : m.1 120 = μ.1 120) (g1 : ν'.1 13 = ν.1 13) : RF m ν' := fun j hj => by rw [h1, g1]; exact h j hj
theorem KQ.keep {μ m ν ν' : j_M} (hM : MI ν) (h : KQ μ ν) (h1 : m.1 0 3 = μ.1 0 3) (h2 : ∀ c, 43 ≤ c → c < 64 → m.1 c = μ.1 c) (g1 : ν'.1 0 21 = ν.1 0 21) (g2 : ν'.1 14 = ν.1 14) : KQ m ν' := by
  have e : wold ν'.1 = wold ν.1 := by
    funext a b
    show ν'.1 14 _ = ν.1 14 _
    rw [g2]
  refine ⟨h1.trans (h.1.trans g1.symm), fun z => ?_⟩
  rw [g1] at z
  rw [e]
  exact (h.2 z).of (hM.o8 z) (fun c j a b => by rw [h2 c (by omega) (by omega)])
theorem SC.keepR {μ m ν ν' : j_M} (hM : MI ν) (h : SC μ 1 ν.1 (nn ν)) (h1 : ∀ c, 1 ≤ c → c < 22 → m.1 c = μ.1 c) (g : ∀ c j, PWd c j → ν'.1 c j = ν.1 c j) : SC m 1 ν'.1 (nn ν') := by
  have hn : nn ν' = nn ν := by unfold nn; rw [g 0 1 (by omega)]
  rw [hn]
  exact (h.of hM.n8 (fun c j a b => by rw [h1 c (by omega) (by omega)])).w (fun p _ => g _ _ (by omega)) (funext fun j => g _ _ (by omega)) (fun c l a b _ => g _ _ (by omega)) (fun j _ => g _ _ (by omega)) (g _ _ (by omega)) (g _ _ (by omega))
/-- a step in the scene alone -/
theorem Rel.scn {P : Nat → Nat → Prop} {μ m ν ν' : j_M} (hM : MI ν) (h : Rel μ ν) (hF : Fm P μ m) (hP : ∀ c j, P c j → PC 1 c j ∨ PX c j) (hs : SC m 1 ν'.1 (nn ν')) (g : ∀ c j, ¬ PWd c j → ν'.1 c j = ν.1 c j) (g2 : ν'.2 = ν.2) : Rel m ν' := by
  have e : ∀ c, ¬ (∃ j, PC 1 c j ∨ PX c j) → m.1 c = μ.1 c := fun c q => funext fun j => hF.1 c j (fun z => q ⟨j, hP c j z⟩)
  have f : ∀ c, (∀ j, ¬ PWd c j) → ν'.1 c = ν.1 c := fun c q => funext fun j => g c j (q j)
  refine ⟨hs, fun s hsl => (h.sf s hsl).keep (fun j => hF.1 _ _ (fun z => by have := hP _ _ z; omega)) (by rw [hF.2]) (g _ _ (by omega)) (g _ _ (by omega)) (fun j _ => by rw [g2]), h.tq.keep (hF.1 _ _ (fun z => by have := hP _ _ z; omega)) (e 102 (fun ⟨j, z⟩ => by omega)) (g _ _ (by omega)) (f 9 (fun j => by omega)), h.rf.keep (e 120 (fun ⟨j, z⟩ => by omega)) (f 13 (fun j => by omega)), h.kq.keep hM (hF.1 _ _ (fun z => by have := hP _ _ z; omega)) (fun c a b => e c (fun ⟨j, z⟩ => by omega)) (g _ _ (by omega)) (f 14 (fun j => by omega))⟩
/-- a step at one shelf alone -/
theorem Rel.shf {μ m ν ν' : j_M} {k : Nat} (hM : MI ν) (h : Rel μ ν) (hk : k < 8) (hF : ∀ c, c ≠ 104 + 2 * k → m.1 c = μ.1 c) (hF2 : ∀ c, c ≠ 105 + 2 * k → m.2 c = μ.2 c) (hs : SF m ν' k) (g : ∀ c j, ¬ ((c = 10 ∨ c = 11) ∧ j = k) → ν'.1 c j = ν.1 c j) (g2 : ∀ c j, ¬ (c = 12 ∧ 40 * k ≤ j ∧ j < 40 * k + 40) → ν'.2 c j = ν.2 c j) : Rel m ν' := by
  have f : ∀ c, c ≠ 10 → c ≠ 11 → ν'.1 c = ν.1 c := fun c q q2 => funext fun j => g c j (by omega)
  refine ⟨h.sc.keepR hM (fun c a b => hF c (by omega)) (fun c j z => g c j (by omega)), fun s hsl => ?_, h.tq.keep (by rw [hF 101 (by omega)]) (hF 102 (by omega)) (g _ _ (by omega)) (f 9 (by omega) (by omega)), h.rf.keep (hF 120 (by omega)) (f 13 (by omega) (by omega)), h.kq.keep hM (by rw [hF 0 (by omega)]) (fun c a b => hF c (by omega)) (g _ _ (by omega)) (f 14 (by omega) (by omega))⟩
  by_cases e : s = k
  · subst e; exact hs
  · exact (h.sf s hsl).keep (fun j => by rw [hF _ (by omega)]) (hF2 _ (by omega)) (g _ _ (by omega)) (g _ _ (by omega)) (fun j hj => g2 _ _ (by omega))
theorem flJ_1 {μ : j_M} {a n : Nat} {v : Int64} : (flJ μ a n v).1 = μ.1 := rfl
theorem Rel.row {μ ν : j_M} {k : Nat} {so n : Int32} (hM : MI ν) (h : Rel μ ν) (hk : k < 8) : Rel (flJ (j_pI (j_pI μ (104 + 2 * k) 1 so) (104 + 2 * k) 2 n) (104 + 2 * k + 1) 40 0) (zr (j_pI (j_pI ν 10 k so) 11 k n) k 40) := by
  refine h.shf hM hk (fun c hc => ?_) (fun c hc => ?_) ⟨?_, fun _ => ?_, fun j hj => ?_⟩ (fun c j hc => ?_) (fun c j hc => ?_)
  · rw [flJ_1, j_pI_ne hc, j_pI_ne hc]
  · funext j
    show (if c = 104 + 2 * k + 1 ∧ j < 40 then (0 : Int64) else μ.2 c j) = μ.2 c j
    rw [if_neg (by omega)]
  · show (j_pI (j_pI μ (104 + 2 * k) 1 so) (104 + 2 * k) 2 n).1 (104 + 2 * k) 1 = (j_pI (j_pI ν 10 k so) 11 k n).1 10 k
    rw [j_pI_off (by omega), j_pI_at, j_pI_off (by omega), j_pI_at]
  · show (j_pI (j_pI μ (104 + 2 * k) 1 so) (104 + 2 * k) 2 n).1 (104 + 2 * k) 2 = (j_pI (j_pI ν 10 k so) 11 k n).1 11 k
    rw [j_pI_at, j_pI_at]
  · show (if 105 + 2 * k = 104 + 2 * k + 1 ∧ j < 40 then (0 : Int64) else μ.2 _ j) = (if 12 = 12 ∧ 40 * k ≤ 40 * k + j ∧ 40 * k + j < 40 * k + 40 then (0 : Int64) else ν.2 _ _)
    rw [if_pos (by omega), if_pos (by omega)]
  · show (j_pI (j_pI ν 10 k so) 11 k n).1 c j = _
    rw [j_pI_off (by omega), j_pI_off (by omega)]
  · show (if c = 12 ∧ 40 * k ≤ j ∧ j < 40 * k + 40 then (0 : Int64) else ν.2 c j) = _
    rw [if_neg hc]
theorem Rel.elm {μ ν : j_M} {k i : Nat} {v : Int64} (hM : MI ν) (h : Rel μ ν) (hk : k < 8) (hi : i < 40) : Rel (j_pL μ (104 + 2 * k + 1) i v) (j_pL ν 12 (40 * k + i) v) := by
  obtain ⟨a, b, c⟩ := h.sf k hk
  refine h.shf hM hk (fun c hc => rfl) (fun c hc => j_pL_ne (by omega)) ⟨a, b, fun j hj => ?_⟩ (fun c j hc => rfl) (fun c j hc => ?_)
  · show (if 105 + 2 * k = 104 + 2 * k + 1 ∧ j = i then v else μ.2 _ j) = (if 12 = 12 ∧ 40 * k + j = 40 * k + i then v else ν.2 _ _)
    by_cases e : j = i
    · rw [if_pos (by omega), if_pos (by omega)]
    · rw [if_neg (by omega), if_neg (by omega)]; exact c j hj
  · show (if c = 12 ∧ j = 40 * k + i then v else ν.2 c j) = _
    rw [if_neg (by omega)]
theorem Rel.cpy {μ ν : j_M} {p q i j n : Nat} (hM : MI ν) (h : Rel μ ν) (hp : p < 8) (hq : q < 8) (hi : i + n ≤ 40) (hj : j + n ≤ 40) : Rel (j_cL μ (104 + 2 * p + 1) (104 + 2 * q + 1) i j n) (j_cL ν 12 12 (40 * p + i) (40 * q + j) n) := by
  obtain ⟨a, b, c⟩ := h.sf q hq
  obtain ⟨a2, b2, c2⟩ := h.sf p hp
  refine h.shf hM hq (fun c hc => rfl) (fun c hc => ?_) ⟨a, b, fun k hk => ?_⟩ (fun c j hc => rfl) (fun x k hc => ?_)
  · funext k
    show (if c = 104 + 2 * q + 1 then _ else μ.2 c k) = _
    rw [if_neg (by omega)]
  · show (if 105 + 2 * q = 104 + 2 * q + 1 then va_cpy (μ.2 (104 + 2 * p + 1)) (μ.2 (104 + 2 * q + 1)) i j n k else μ.2 (105 + 2 * q) k) = (if 12 = 12 then va_cpy (ν.2 12) (ν.2 12) (40 * p + i) (40 * q + j) n (40 * q + k) else ν.2 12 (40 * q + k))
    rw [if_pos (by omega), if_pos rfl]
    by_cases e : j ≤ k ∧ k < j + n
    · rw [pk_cpy_in e.1 e.2, pk_cpy_in (by omega) (by omega), show 40 * p + i + (40 * q + k - (40 * q + j)) = 40 * p + (i + (k - j)) by omega, show 104 + 2 * p + 1 = 105 + 2 * p by omega]
      exact c2 _ (by omega)
    · rw [pk_cpy_out (by omega), pk_cpy_out (by omega), show 104 + 2 * q + 1 = 105 + 2 * q by omega]
      exact c k hk
  · show (if x = 12 then va_cpy (ν.2 12) (ν.2 12) (40 * p + i) (40 * q + j) n k else ν.2 x k) = _
    by_cases e : x = 12
    · subst e
      rw [if_pos rfl, pk_cpy_out (by omega)]
    · rw [if_neg e]
theorem Rel.hold {μ ν : j_M} {k : Nat} {v z : Int32} (hM : MI ν) (h : Rel μ ν) (hk : k < 8) (hv : ¬ inQ 5 v = true) : Rel (j_pI (j_pI μ (104 + 2 * k) 1 v) (104 + 2 * k) 2 z) (j_pI ν 10 k v) := by
  obtain ⟨a, b, c⟩ := h.sf k hk
  refine h.shf hM hk (fun c hc => by rw [j_pI_ne hc, j_pI_ne hc]) (fun c hc => rfl) ⟨?_, fun y => ?_, c⟩ (fun c j hc => j_pI_off (by omega)) (fun c j hc => rfl)
  · rw [j_pI_off (by omega), j_pI_at, j_pI_at]
  · rw [j_pI_at] at y; exact absurd y hv
theorem Rel.tap {μ ν : j_M} {t : Nat} {v : Int32} (hM : MI ν) (h : Rel μ ν) (ht : t < 250) : Rel (j_pI (j_pI μ 102 t v) 101 1 (nI (t + 1))) (j_pI (j_pI ν 0 11 (nI (t + 1))) 9 t v) := by
  refine ⟨h.sc.keepR hM (fun c a b => by rw [j_pI_ne (by omega), j_pI_ne (by omega)]) (fun c j z => by rw [j_pI_off (by omega), j_pI_off (by omega)]), fun s hsl => (h.sf s hsl).keep (fun j => by rw [j_pI_ne (by omega), j_pI_ne (by omega)]) rfl (by rw [j_pI_off (by omega), j_pI_off (by omega)]) (by rw [j_pI_off (by omega), j_pI_off (by omega)]) (fun j _ => rfl), ⟨?_, fun j hj => ?_⟩, h.rf.keep (by rw [j_pI_ne (by omega), j_pI_ne (by omega)]) (by rw [j_pI_ne (by omega), j_pI_ne (by omega)]), h.kq.keep hM (by rw [j_pI_off (by omega), j_pI_off (by omega)]) (fun c a b => by rw [j_pI_ne (by omega), j_pI_ne (by omega)]) (by rw [j_pI_off (by omega), j_pI_off (by omega)]) (by rw [j_pI_ne (by omega), j_pI_ne (by omega)])⟩
  · rw [j_pI_at, j_pI_off (by omega), j_pI_at]
  · by_cases e : j = t
    · subst e; rw [j_pI_off (by omega), j_pI_at, j_pI_at]
    · rw [j_pI_off (by omega), j_pI_off (by omega), j_pI_off (by omega), j_pI_off (by omega)]; exact h.tq.2 j hj
theorem Rel.wip {μ ν : j_M} {v : Int32} (hM : MI ν) (h : Rel μ ν) : Rel (j_pI μ 101 1 v) (j_pI ν 0 11 v) := by
  refine ⟨h.sc.keepR hM (fun c a b => j_pI_ne (by omega)) (fun c j z => j_pI_off (by omega)), fun s hsl => (h.sf s hsl).keep (fun j => j_pI_off (by omega)) rfl (j_pI_off (by omega)) (j_pI_off (by omega)) (fun j _ => rfl), ⟨?_, fun j hj => ?_⟩, h.rf.keep (j_pI_ne (by omega)) (j_pI_ne (by omega)), h.kq.keep hM (j_pI_off (by omega)) (fun c a b => j_pI_ne (by omega)) (j_pI_off (by omega)) (j_pI_ne (by omega))⟩
  · rw [j_pI_at, j_pI_at]
  · rw [j_pI_off (by omega), j_pI_off (by omega)]; exact h.tq.2 j hj
/-- a looker's number changes, not his age -/
theorem SC.pk {μ : j_M} {b n l j : Nat} {w : Nat → Nat → Int32} {v : Int32} (h : SC μ b w n) (hn : n ≤ 8) (hl : l < n) (hj : 1 ≤ j) (hj6 : j ≤ 6) (hj3 : j ≠ 3) : SC (j_pI μ (b + 5 + 2 * l) j v) b (fun c i => if c = j + 1 ∧ i = l then v else w c i) n := by
  have e : ∀ c i, ¬ (c = b + 5 + 2 * l ∧ i = j) → (j_pI μ (b + 5 + 2 * l) j v).1 c i = μ.1 c i := fun c i q => j_pI_off q
  have f : ∀ c i, ¬ (c = j + 1 ∧ i = l) → (fun c i => if c = j + 1 ∧ i = l then v else w c i) c i = w c i := fun c i q => if_neg q
  have ft : (fun c i => if c = j + 1 ∧ i = l then v else w c i) (j + 1) l = v := if_pos ⟨rfl, rfl⟩
  generalize (fun c i => if c = j + 1 ∧ i = l then v else w c i) = w' at f ft ⊢
  refine ⟨fun p hp => (e _ _ (by omega)).trans ((h.srt p hp).trans (f _ _ (by omega)).symm), fun s hs => (e _ _ (by omega)).trans ((h.plw s hs).trans (pwB_congr (fun p _ => f _ _ (by omega)) s).symm), fun i hi => (e _ _ (by omega)).trans ((h.ord i hi).trans ?_), fun i hi => ?_, (e _ _ (by omega)).trans (h.fil.trans (lfB_congr (fun p _ => f _ _ (by omega))).symm), (e _ _ (by omega)).trans h.cnt, (e _ _ (by omega)).trans (h.evs.trans (f _ _ (by omega)).symm), (e _ _ (by omega)).trans (h.sed.trans (f _ _ (by omega)).symm)⟩
  · unfold OA
    rw [show w' 4 = w 4 from funext fun i => f _ _ (by omega)]
  · by_cases hil : i = l
    · subst hil
      obtain ⟨a1, a2, a3, a4, a5, a6, a7⟩ := h.lk i hi
      have g : ∀ c, 1 ≤ c → c ≤ 6 → μ.1 (b + 5 + 2 * i) c = w (c + 1) i → (j_pI μ (b + 5 + 2 * i) j v).1 (b + 5 + 2 * i) c = w' (c + 1) i := by
        intro c h1 h2 h3
        by_cases q : c = j
        · subst q; rw [j_pI_at, ft]
        · rw [e _ _ (by omega), f _ _ (by omega), h3]
      exact ⟨g 1 (by omega) (by omega) a1, g 2 (by omega) (by omega) a2, g 3 (by omega) (by omega) a3, g 4 (by omega) (by omega) a4, g 5 (by omega) (by omega) a5, g 6 (by omega) (by omega) a6, fun s hs => (e _ _ (by omega)).trans ((a7 s hs).trans (f _ _ (by omega)).symm)⟩
    · exact ((h.lk i hi).of (m := j_pI μ (b + 5 + 2 * l) j v) (fun c y h1 h2 => e _ _ (by omega))).w (fun c h1 h2 => f _ _ (by omega)) (fun s hs => f _ _ (by omega))
theorem Rel.pk {μ ν : j_M} {l j c : Nat} {v : Int32} (hM : MI ν) (h : Rel μ ν) (hl : l < nn ν) (hj : 1 ≤ j) (hj6 : j ≤ 6) (hj3 : j ≠ 3) (hc : c = j + 1) : Rel (j_pI μ (6 + 2 * l) j v) (j_pI ν c l v) := by
  subst hc
  have hn : nn (j_pI ν (j + 1) l v) = nn ν := nn_off (by omega)
  refine h.scn hM (P := fun c _ => c = 6 + 2 * l) (Fm.rf.pI rfl) (fun c j z => by have := hM.n8; omega) ?_ (fun c j z => j_pI_off (by omega)) rfl
  rw [hn]
  exact h.sc.pk hM.n8 hl hj hj6 hj3
theorem Rel.sed {μ ν : j_M} {v : Int32} (hM : MI ν) (h : Rel μ ν) : Rel (j_pI μ 1 7 v) (j_pI ν 0 10 v) := by
  have hn : nn (j_pI ν 0 10 v) = nn ν := nn_off (by omega)
  refine h.scn hM (P := fun c _ => c = 1) (Fm.rf.pI rfl) (fun c j z => by omega) ?_ (fun c j z => j_pI_off (by omega)) rfl
  rw [hn]
  have hs := h.sc
  have e : ∀ c j, ¬ (c = 1 ∧ j = 7) → (j_pI μ 1 7 v).1 c j = μ.1 c j := fun c i q => j_pI_off q
  have f : ∀ c j, ¬ (c = 0 ∧ j = 10) → (j_pI ν 0 10 v).1 c j = ν.1 c j := fun c i q => j_pI_off q
  exact ⟨fun p hp => (e _ _ (by omega)).trans ((hs.srt p hp).trans (f _ _ (by omega)).symm), fun s hsl => (e _ _ (by omega)).trans ((hs.plw s hsl).trans (pwB_congr (fun p _ => f _ _ (by omega)) s).symm), fun i hi => (e _ _ (by omega)).trans ((hs.ord i hi).trans (by unfold OA; rw [show (j_pI ν 0 10 v).1 4 = ν.1 4 from funext fun i => f _ _ (by omega)])), fun i hi => ((hs.lk i hi).of (m := j_pI μ 1 7 v) (fun c y h1 h2 => e _ _ (by omega))).w (fun c h1 h2 => f _ _ (by omega)) (fun s hsl => f _ _ (by omega)), (e _ _ (by omega)).trans (hs.fil.trans (lfB_congr (fun p _ => f _ _ (by omega))).symm), (e _ _ (by omega)).trans hs.cnt, (e _ _ (by omega)).trans (hs.evs.trans (f _ _ (by omega)).symm), by rw [j_pI_at, j_pI_at]⟩
