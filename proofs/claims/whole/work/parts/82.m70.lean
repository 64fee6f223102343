/-! pools that grow: a world as a set of cells -/
theorem va_P_iff {D : va_G} {cl : List vw_C} {ws : va_W} {H : Heap} : va_P D cl ws H ↔ ∀ x ∈ ws, va_at D cl x H := by
  refine ⟨fun h x hx => ?_, fun h k q hk => h q (List.mem_of_getElem? hk)⟩
  obtain ⟨k, hk⟩ := List.mem_iff_getElem?.mp hx
  exact h k x hk
theorem va_P_mem {D : va_G} {cl : List vw_C} {ws ws' : va_W} {H : Heap} (h : va_P D cl ws H) (hs : ∀ x ∈ ws', x ∈ ws) : va_P D cl ws' H := va_P_iff.mpr (fun x hx => va_P_iff.mp h x (hs x hx))
theorem va_P_app {D : va_G} {cl : List vw_C} {A B : va_W} {H : Heap} (h1 : va_P D cl A H) (h2 : va_P D cl B H) : va_P D cl (A ++ B) H := va_P_iff.mpr (fun x hx => (List.mem_append.mp hx).elim (fun z => va_P_iff.mp h1 x z) (fun z => va_P_iff.mp h2 x z))
theorem va_D_iff {A : Nat → Prop} {ws : va_W} : va_D A ws ↔ (ws.map Prod.fst).Nodup ∧ ∀ x ∈ ws, A x.1 := by
  refine ⟨fun h => ⟨?_, fun x hx => ?_⟩, fun h => ⟨fun i j p q hp hq e => ?_, fun k q hk => h.2 q (List.mem_of_getElem? hk)⟩⟩
  · rw [List.nodup_iff_pairwise_ne, List.pairwise_iff_getElem]
    intro i j hi hj hij e
    rw [List.length_map] at hi hj
    rw [List.getElem_map, List.getElem_map] at e
    have := h.1 i j _ _ (List.getElem?_eq_getElem hi) (List.getElem?_eq_getElem hj) e
    omega
  · obtain ⟨k, hk⟩ := List.mem_iff_getElem?.mp hx
    exact h.2 k x hk
  · have hn := List.pairwise_iff_getElem.mp (List.nodup_iff_pairwise_ne.mp h.1)
    obtain ⟨hi, ei⟩ := List.getElem?_eq_some_iff.mp hp
    obtain ⟨hj, ej⟩ := List.getElem?_eq_some_iff.mp hq
    rcases Nat.lt_trichotomy i j with z | z | z
    · have := hn i j (by rw [List.length_map]; exact hi) (by rw [List.length_map]; exact hj) z
      rw [List.getElem_map, List.getElem_map, ei, ej] at this
      exact absurd e this
    · exact z
    · have := hn j i (by rw [List.length_map]; exact hj) (by rw [List.length_map]; exact hi) z
      rw [List.getElem_map, List.getElem_map, ei, ej] at this
      exact absurd e.symm this
theorem va_D_perm {A : Nat → Prop} {ws ws' : va_W} (h : va_D A ws) (hp : ws'.Perm ws) : va_D A ws' := by
  obtain ⟨h1, h2⟩ := va_D_iff.mp h
  exact va_D_iff.mpr ⟨(hp.map Prod.fst).nodup_iff.mpr h1, fun x hx => h2 x (hp.mem_iff.mp hx)⟩
theorem va_P_perm {D : va_G} {cl : List vw_C} {ws ws' : va_W} {H : Heap} (h : va_P D cl ws H) (hp : ws'.Perm ws) : va_P D cl ws' H := va_P_mem h (fun x hx => hp.mem_iff.mp hx)
theorem nd_map {l : List Nat} (h : l.Nodup) : va_nd l = true := by
  induction l with
  | nil => rfl
  | cons a l ih =>
    obtain ⟨h1, h2⟩ := List.nodup_cons.mp h
    show (decide (a ∉ l) && va_nd l) = true
    rw [decide_eq_true h1, ih h2]; rfl
theorem rng_app {α : Type} {A B : List α} : (List.range A.length).map (fun i => (A ++ B)[i]?) = A.map some := by
  refine List.ext_getElem? (fun i => ?_)
  rw [List.getElem?_map, List.getElem?_map]
  by_cases h : i < A.length
  · rw [List.getElem?_range h, List.getElem?_eq_getElem h]
    show some (A ++ B)[i]? = _
    rw [List.getElem?_append_left h, List.getElem?_eq_getElem h]; rfl
  · rw [List.getElem?_eq_none (by rw [List.length_range]; omega), List.getElem?_eq_none (by omega)]; rfl
theorem rng_app2 {α : Type} {A B : List α} : ((List.range B.length).map (fun i => A.length + i)).map (fun i => (A ++ B)[i]?) = B.map some := by
  refine List.ext_getElem? (fun i => ?_)
  rw [List.map_map, List.getElem?_map, List.getElem?_map]
  by_cases h : i < B.length
  · rw [List.getElem?_range h, List.getElem?_eq_getElem h]
    show some (A ++ B)[A.length + i]? = _
    rw [List.getElem?_append_right (by omega), show A.length + i - A.length = i by omega, List.getElem?_eq_getElem h]; rfl
  · rw [List.getElem?_eq_none (by rw [List.length_range]; omega), List.getElem?_eq_none (by omega)]; rfl
/-- behind a call whose world was the last part -/
theorem va_joinL {A0 : Nat → Prop} {D : va_G} {cl : List vw_C} {wc wr w1 : va_W} {H H1 : Heap} (hP : va_P D cl (wr ++ wc) H) (hD : va_D A0 (wr ++ wc)) (hk : ∀ q : Nat, q < H.size → ¬ va_A wc H.size q → H1[q]? = H[q]?) (hF : ∀ q, va_A wc H.size q → A0 q) (hP1 : va_P D cl w1 H1) (hD1 : va_D (va_A wc H.size) w1) : va_P D cl (wr ++ w1) H1 ∧ va_D A0 (wr ++ w1) :=
  va_join (ws := wr ++ wc) (wc := wc) (wr := wr) hP hD ((List.range wc.length).map (fun i => wr.length + i)) (List.range wr.length) rng_app2 rng_app (nd_map List.nodup_range) (fun i hi hm => by
    obtain ⟨j, -, e⟩ := List.mem_map.mp hm
    have := List.mem_range.mp hi
    omega) hk hF hP1 hD1
theorem va_freeL {A0 : Nat → Prop} {wr wc : va_W} {H0 H : Heap} {locs : List Loc} (hD : va_D A0 (wr ++ wc)) (hS : va_S A0 H0 H locs) (hA : ∀ q, H0.size ≤ q → A0 q) : ∀ q, va_A wc H.size q → A0 q := va_free (ws := wr ++ wc) hD hS hA ((List.range wc.length).map (fun i => wr.length + i)) rng_app2
