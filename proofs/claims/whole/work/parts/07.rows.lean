/-! rows of V: an instruction each -/
theorem Fx.hx {X : j_X} {cc : ByteArray} {own : String} {d : Nat} {rt : Option FieldType} {Λ : j_L} (F : Fx X cc own d rt Λ) : Λ = X.2.2.2.2.2.2.2.2.2.2.2.1 := by
  obtain ⟨p, l, e, R, s, m, args, below, meth, kc, G, Λ', nL⟩ := X
  obtain ⟨-, -, -, -, -, -, -, -, -, -, h⟩ := F
  exact h.symm
def j_asc (G : j_G) (lo : j_lo) : List (Nat × Value) := (List.range lo.length).filterMap (fun k => match lo[k]? with
  | some (some v) => some (k, j_cz G v)
  | _ => none)
theorem j_asc_in {G : j_G} {lo : j_lo} {k : Nat} {v : Value} (h : lo[k]? = some (some v)) : (k, j_cz G v) ∈ j_asc G lo := by
  refine List.mem_filterMap.mpr ⟨k, List.mem_range.mpr (List.getElem?_eq_some_iff.mp h).1, ?_⟩
  rw [h]
theorem j_asc_of {G : j_G} {lo : j_lo} {k : Nat} {w : Value} (h : (k, w) ∈ j_asc G lo) : ∃ v, lo[k]? = some (some v) ∧ w = j_cz G v := by
  obtain ⟨a, -, h2⟩ := List.mem_filterMap.mp h
  cases hq : lo[a]? with
  | none => rw [hq] at h2; cases h2
  | some o =>
    rw [hq] at h2
    cases o with
    | none => cases h2
    | some v =>
      cases h2
      exact ⟨v, hq, rfl⟩
theorem j_LH_has {G : j_G} {ls : Array Slot} {nL : Nat} {lo : j_lo} (h : j_LH G ls nL lo) : lv_has ls nL (j_asc G lo) := ⟨h.1, h.2.1, fun q hq => by
  obtain ⟨v, h1, h2⟩ := j_asc_of (k := q.1) (w := q.2) hq
  rw [h2]
  exact h.2.2.2 _ _ h1⟩
def j_cl (lo : j_lo) (i : Nat) : Bool := match i with
  | 0 => true
  | k + 1 => match lo[k]? with
    | some (some v) => v.category != 2
    | _ => true
theorem j_LH_set {G : j_G} {ls ls' : Array Slot} {nL i : Nat} {lo lo' : j_lo} {x : Value} (h : j_LH G ls nL lo) (hp : j_cl lo i = true) (hl : lo.set i (some x) = lo') (h' : lv_has ls' nL ((i, j_cz G x) :: (j_asc G lo).filter (fun q => !(q.1 == i) && !(q.1 + 1 == i && q.2.category == 2)))) : j_LH G ls' nL lo' := by
  subst hl
  refine ⟨h'.1, h'.2.1, by rw [List.length_set]; exact h.2.2.1, fun k v hk => ?_⟩
  by_cases e : k = i
  · subst e
    have hlt : k < lo.length := by
      have := (List.getElem?_eq_some_iff.mp hk).1
      simpa using this
    rw [List.getElem?_set_self hlt] at hk
    cases hk
    exact h'.2.2 _ List.mem_cons_self
  · rw [List.getElem?_set_ne (Ne.symm e)] at hk
    refine h'.2.2 (k, j_cz G v) (List.mem_cons_of_mem _ (List.mem_filter.mpr ⟨j_asc_in hk, ?_⟩))
    have h1 : (k == i) = false := by simp [e]
    by_cases e2 : k + 1 = i
    · subst e2
      simp only [j_cl, hk] at hp
      simp [j_cz_cat] at hp ⊢
      exact hp
    · simp [e, e2]
theorem j_LH_setL {G : j_G} {ls ls' : Array Slot} {nL i : Nat} {lo lo' : j_lo} {x : Value} (h : j_LH G ls nL lo) (hp : j_cl lo i = true) (hl : (lo.set i (some x)).set (i + 1) none = lo') (h' : lv_has ls' nL ((i, j_cz G x) :: (j_asc G lo).filter (fun q => !(q.1 == i) && (!(q.1 == i + 1) && !(q.1 + 1 == i && q.2.category == 2))))) : j_LH G ls' nL lo' := by
  subst hl
  refine ⟨h'.1, h'.2.1, by rw [List.length_set, List.length_set]; exact h.2.2.1, fun k v hk => ?_⟩
  by_cases e3 : k = i + 1
  · subst e3
    have hlt : i + 1 < (lo.set i (some x)).length := by
      have := (List.getElem?_eq_some_iff.mp hk).1
      simpa using this
    rw [List.getElem?_set_self hlt] at hk
    cases hk
  · rw [List.getElem?_set_ne (Ne.symm e3)] at hk
    by_cases e : k = i
    · subst e
      have hlt : k < lo.length := by
        have := (List.getElem?_eq_some_iff.mp hk).1
        simpa using this
      rw [List.getElem?_set_self hlt] at hk
      cases hk
      exact h'.2.2 _ List.mem_cons_self
    · rw [List.getElem?_set_ne (Ne.symm e)] at hk
      refine h'.2.2 (k, j_cz G v) (List.mem_cons_of_mem _ (List.mem_filter.mpr ⟨j_asc_in hk, ?_⟩))
      by_cases e2 : k + 1 = i
      · subst e2
        simp only [j_cl, hk] at hp
        simp [j_cz_cat] at hp ⊢
        exact ⟨by omega, hp⟩
      · simp [e, e2, e3]
section rows
variable {X : j_X} {post : j_ps} {pc : Nat} {lo lo' : j_lo} {st : List Value} {μ : j_M} {cc : ByteArray} {own : String} {d : Nat} {rt : Option FieldType} {Λ : j_L}

theorem v_iconst (F : Fx X cc own d rt Λ) {n : Int} {v : Int32} (hd : decode cc pc = .ok (.iconst n, 1)) (hv : Int32.ofInt n = v) (k : V X post (pc + 1) lo (.int v :: st) μ) : V X post pc lo (st) μ := by
  obtain ⟨p, l, e, R, s, m, args, below, meth, kc, G, Λ', nL⟩ := X
  obtain ⟨hx, hb, hml, hown, hts, hK, hlk, hok, hR, hr, hL⟩ := F
  subst hL
  intro H locs ls hP hS hl
  exact lv_iconst hx hb hd hv (k H locs ls hP hS hl)
theorem v_bipush (F : Fx X cc own d rt Λ) {n : Int} {v : Int32} (hd : decode cc pc = .ok (.bipush n, 2)) (hv : (Int8.ofInt n).toInt32 = v) (k : V X post (pc + 2) lo (.int v :: st) μ) : V X post pc lo (st) μ := by
  obtain ⟨p, l, e, R, s, m, args, below, meth, kc, G, Λ', nL⟩ := X
  obtain ⟨hx, hb, hml, hown, hts, hK, hlk, hok, hR, hr, hL⟩ := F
  subst hL
  intro H locs ls hP hS hl
  exact lv_bipush hx hb hd hv (k H locs ls hP hS hl)
theorem v_sipush (F : Fx X cc own d rt Λ) {n : Int} {v : Int32} (hd : decode cc pc = .ok (.sipush n, 3)) (hv : (Int16.ofInt n).toInt32 = v) (k : V X post (pc + 3) lo (.int v :: st) μ) : V X post pc lo (st) μ := by
  obtain ⟨p, l, e, R, s, m, args, below, meth, kc, G, Λ', nL⟩ := X
  obtain ⟨hx, hb, hml, hown, hts, hK, hlk, hok, hR, hr, hL⟩ := F
  subst hL
  intro H locs ls hP hS hl
  exact lv_sipush hx hb hd hv (k H locs ls hP hS hl)
theorem v_lconst (F : Fx X cc own d rt Λ) {n : Fin 2} {v : Int64} (hd : decode cc pc = .ok (.lconst n, 1)) (hv : Int64.ofNat (n : Nat) = v) (k : V X post (pc + 1) lo (.long v :: st) μ) : V X post pc lo (st) μ := by
  obtain ⟨p, l, e, R, s, m, args, below, meth, kc, G, Λ', nL⟩ := X
  obtain ⟨hx, hb, hml, hown, hts, hK, hlk, hok, hR, hr, hL⟩ := F
  subst hL
  intro H locs ls hP hS hl
  exact lv_lconst hx hb hd hv (k H locs ls hP hS hl)
theorem v_iload_n (F : Fx X cc own d rt Λ) {k0 : Fin 4} {i : Nat} {x : Int32} (hd : decode cc pc = .ok (.iload_n k0, 1)) (hi : (k0 : Nat) = i) (h : lo[i]? = some (some (.int x))) (k : V X post (pc + 1) lo (.int x :: st) μ) : V X post pc lo (st) μ := by
  obtain ⟨p, l, e, R, s, m, args, below, meth, kc, G, Λ', nL⟩ := X
  obtain ⟨hx, hb, hml, hown, hts, hK, hlk, hok, hR, hr, hL⟩ := F
  subst hL
  intro H locs ls hP hS hl
  exact lv_iload_n hx hb hd hi (hl.2.2.2 _ _ h) (k H locs ls hP hS hl)
theorem v_iload (F : Fx X cc own d rt Λ) {i : Nat} {x : Int32} (hd : decode cc pc = .ok (.iload i, 2)) (h : lo[i]? = some (some (.int x))) (k : V X post (pc + 2) lo (.int x :: st) μ) : V X post pc lo (st) μ := by
  obtain ⟨p, l, e, R, s, m, args, below, meth, kc, G, Λ', nL⟩ := X
  obtain ⟨hx, hb, hml, hown, hts, hK, hlk, hok, hR, hr, hL⟩ := F
  subst hL
  intro H locs ls hP hS hl
  exact lv_iload hx hb hd (hl.2.2.2 _ _ h) (k H locs ls hP hS hl)
theorem v_lload_n (F : Fx X cc own d rt Λ) {k0 : Fin 4} {i : Nat} {x : Int64} (hd : decode cc pc = .ok (.lload_n k0, 1)) (hi : (k0 : Nat) = i) (h : lo[i]? = some (some (.long x))) (k : V X post (pc + 1) lo (.long x :: st) μ) : V X post pc lo (st) μ := by
  obtain ⟨p, l, e, R, s, m, args, below, meth, kc, G, Λ', nL⟩ := X
  obtain ⟨hx, hb, hml, hown, hts, hK, hlk, hok, hR, hr, hL⟩ := F
  subst hL
  intro H locs ls hP hS hl
  exact lv_lload_n hx hb hd hi (hl.2.2.2 _ _ h) (k H locs ls hP hS hl)
theorem v_lload (F : Fx X cc own d rt Λ) {i : Nat} {x : Int64} (hd : decode cc pc = .ok (.lload i, 2)) (h : lo[i]? = some (some (.long x))) (k : V X post (pc + 2) lo (.long x :: st) μ) : V X post pc lo (st) μ := by
  obtain ⟨p, l, e, R, s, m, args, below, meth, kc, G, Λ', nL⟩ := X
  obtain ⟨hx, hb, hml, hown, hts, hK, hlk, hok, hR, hr, hL⟩ := F
  subst hL
  intro H locs ls hP hS hl
  exact lv_lload hx hb hd (hl.2.2.2 _ _ h) (k H locs ls hP hS hl)
theorem v_aload_n (F : Fx X cc own d rt Λ) {k0 : Fin 4} {i : Nat} {x : Nat} (hd : decode cc pc = .ok (.aload_n k0, 1)) (hi : (k0 : Nat) = i) (h : lo[i]? = some (some (.ref x))) (k : V X post (pc + 1) lo (.ref x :: st) μ) : V X post pc lo (st) μ := by
  obtain ⟨p, l, e, R, s, m, args, below, meth, kc, G, Λ', nL⟩ := X
  obtain ⟨hx, hb, hml, hown, hts, hK, hlk, hok, hR, hr, hL⟩ := F
  subst hL
  intro H locs ls hP hS hl
  exact lv_aload_n hx hb hd hi (hl.2.2.2 _ _ h) (k H locs ls hP hS hl)
theorem v_aload (F : Fx X cc own d rt Λ) {i : Nat} {x : Nat} (hd : decode cc pc = .ok (.aload i, 2)) (h : lo[i]? = some (some (.ref x))) (k : V X post (pc + 2) lo (.ref x :: st) μ) : V X post pc lo (st) μ := by
  obtain ⟨p, l, e, R, s, m, args, below, meth, kc, G, Λ', nL⟩ := X
  obtain ⟨hx, hb, hml, hown, hts, hK, hlk, hok, hR, hr, hL⟩ := F
  subst hL
  intro H locs ls hP hS hl
  exact lv_aload hx hb hd (hl.2.2.2 _ _ h) (k H locs ls hP hS hl)
theorem v_istore_n (F : Fx X cc own d rt Λ) {k0 : Fin 4} {i : Nat} {x : Int32} (hd : decode cc pc = .ok (.istore_n k0, 1)) (hi : (k0 : Nat) = i) (hp : j_cl lo i = true) (hn : i < lo.length) (hl2 : lo.set i (some (.int x)) = lo') (k : V X post (pc + 1) lo' st μ) : V X post pc lo (.int x :: st) μ := by
  obtain ⟨p, l, e, R, s, m, args, below, meth, kc, G, Λ', nL⟩ := X
  obtain ⟨hx, hb, hml, hown, hts, hK, hlk, hok, hR, hr, hL⟩ := F
  subst hL
  intro H locs ls hP hS hl
  exact lv_istore_n hx hb hd hi (j_LH_has hl) (by rw [← hl.2.2.1]; exact hn) rfl (fun ls2 h2 => k H locs ls2 hP hS (j_LH_set hl hp hl2 h2))
theorem v_istore (F : Fx X cc own d rt Λ) {i : Nat} {x : Int32} (hd : decode cc pc = .ok (.istore i, 2)) (hp : j_cl lo i = true) (hn : i < lo.length) (hl2 : lo.set i (some (.int x)) = lo') (k : V X post (pc + 2) lo' st μ) : V X post pc lo (.int x :: st) μ := by
  obtain ⟨p, l, e, R, s, m, args, below, meth, kc, G, Λ', nL⟩ := X
  obtain ⟨hx, hb, hml, hown, hts, hK, hlk, hok, hR, hr, hL⟩ := F
  subst hL
  intro H locs ls hP hS hl
  exact lv_istore hx hb hd (j_LH_has hl) (by rw [← hl.2.2.1]; exact hn) rfl (fun ls2 h2 => k H locs ls2 hP hS (j_LH_set hl hp hl2 h2))
theorem v_astore_n (F : Fx X cc own d rt Λ) {k0 : Fin 4} {i : Nat} {x : Nat} (hd : decode cc pc = .ok (.astore_n k0, 1)) (hi : (k0 : Nat) = i) (hp : j_cl lo i = true) (hn : i < lo.length) (hl2 : lo.set i (some (.ref x)) = lo') (k : V X post (pc + 1) lo' st μ) : V X post pc lo (.ref x :: st) μ := by
  obtain ⟨p, l, e, R, s, m, args, below, meth, kc, G, Λ', nL⟩ := X
  obtain ⟨hx, hb, hml, hown, hts, hK, hlk, hok, hR, hr, hL⟩ := F
  subst hL
  intro H locs ls hP hS hl
  exact lv_astore_n hx hb hd hi (j_LH_has hl) (by rw [← hl.2.2.1]; exact hn) rfl (fun ls2 h2 => k H locs ls2 hP hS (j_LH_set hl hp hl2 h2))
theorem v_astore (F : Fx X cc own d rt Λ) {i : Nat} {x : Nat} (hd : decode cc pc = .ok (.astore i, 2)) (hp : j_cl lo i = true) (hn : i < lo.length) (hl2 : lo.set i (some (.ref x)) = lo') (k : V X post (pc + 2) lo' st μ) : V X post pc lo (.ref x :: st) μ := by
  obtain ⟨p, l, e, R, s, m, args, below, meth, kc, G, Λ', nL⟩ := X
  obtain ⟨hx, hb, hml, hown, hts, hK, hlk, hok, hR, hr, hL⟩ := F
  subst hL
  intro H locs ls hP hS hl
  exact lv_astore hx hb hd (j_LH_has hl) (by rw [← hl.2.2.1]; exact hn) rfl (fun ls2 h2 => k H locs ls2 hP hS (j_LH_set hl hp hl2 h2))
theorem v_lstore_n (F : Fx X cc own d rt Λ) {k0 : Fin 4} {i : Nat} {x : Int64} (hd : decode cc pc = .ok (.lstore_n k0, 1)) (hi : (k0 : Nat) = i) (hp : j_cl lo i = true) (hn : i + 1 < lo.length) (hl2 : (lo.set i (some (.long x))).set (i + 1) none = lo') (k : V X post (pc + 1) lo' st μ) : V X post pc lo (.long x :: st) μ := by
  obtain ⟨p, l, e, R, s, m, args, below, meth, kc, G, Λ', nL⟩ := X
  obtain ⟨hx, hb, hml, hown, hts, hK, hlk, hok, hR, hr, hL⟩ := F
  subst hL
  intro H locs ls hP hS hl
  exact lv_lstore_n hx hb hd hi (j_LH_has hl) (by rw [← hl.2.2.1]; exact hn) rfl (fun ls2 h2 => k H locs ls2 hP hS (j_LH_setL hl hp hl2 h2))
theorem v_lstore (F : Fx X cc own d rt Λ) {i : Nat} {x : Int64} (hd : decode cc pc = .ok (.lstore i, 2)) (hp : j_cl lo i = true) (hn : i + 1 < lo.length) (hl2 : (lo.set i (some (.long x))).set (i + 1) none = lo') (k : V X post (pc + 2) lo' st μ) : V X post pc lo (.long x :: st) μ := by
  obtain ⟨p, l, e, R, s, m, args, below, meth, kc, G, Λ', nL⟩ := X
  obtain ⟨hx, hb, hml, hown, hts, hK, hlk, hok, hR, hr, hL⟩ := F
  subst hL
  intro H locs ls hP hS hl
  exact lv_lstore hx hb hd (j_LH_has hl) (by rw [← hl.2.2.1]; exact hn) rfl (fun ls2 h2 => k H locs ls2 hP hS (j_LH_setL hl hp hl2 h2))
theorem v_iinc (F : Fx X cc own d rt Λ) {i : Nat} {n : Int} {x v : Int32} (hd : decode cc pc = .ok (.iinc i n, 3)) (h : lo[i]? = some (some (.int x))) (hv : x + Int32.ofInt n = v) (hp : j_cl lo i = true) (hl2 : lo.set i (some (.int v)) = lo') (k : V X post (pc + 3) lo' st μ) : V X post pc lo st μ := by
  obtain ⟨p, l, e, R, s, m, args, below, meth, kc, G, Λ', nL⟩ := X
  obtain ⟨hx, hb, hml, hown, hts, hK, hlk, hok, hR, hr, hL⟩ := F
  subst hL
  intro H locs ls hP hS hl
  obtain ⟨q, hq⟩ := List.getElem?_of_mem (j_asc_in (G := G) h)
  exact lv_iinc hx hb hd (j_LH_has hl) hq hv (by rw [← hl.2.2.1]; exact (List.getElem?_eq_some_iff.mp h).1) rfl (fun ls2 h2 => k H locs ls2 hP hS (j_LH_set hl hp hl2 h2))
theorem v_iadd (F : Fx X cc own d rt Λ) {x y : Int32} (hd : decode cc pc = .ok (.iadd, 1))  (k : V X post (pc + 1) lo (.int (x + y) :: st) μ) : V X post pc lo (.int y :: .int x :: st) μ := by
  obtain ⟨p, l, e, R, s, m, args, below, meth, kc, G, Λ', nL⟩ := X
  obtain ⟨hx, hb, hml, hown, hts, hK, hlk, hok, hR, hr, hL⟩ := F
  subst hL
  intro H locs ls hP hS hl
  exact lv_iadd hx hb hd (k H locs ls hP hS hl)
theorem v_isub (F : Fx X cc own d rt Λ) {x y : Int32} (hd : decode cc pc = .ok (.isub, 1))  (k : V X post (pc + 1) lo (.int (x - y) :: st) μ) : V X post pc lo (.int y :: .int x :: st) μ := by
  obtain ⟨p, l, e, R, s, m, args, below, meth, kc, G, Λ', nL⟩ := X
  obtain ⟨hx, hb, hml, hown, hts, hK, hlk, hok, hR, hr, hL⟩ := F
  subst hL
  intro H locs ls hP hS hl
  exact lv_isub hx hb hd (k H locs ls hP hS hl)
theorem v_imul (F : Fx X cc own d rt Λ) {x y : Int32} (hd : decode cc pc = .ok (.imul, 1))  (k : V X post (pc + 1) lo (.int (x * y) :: st) μ) : V X post pc lo (.int y :: .int x :: st) μ := by
  obtain ⟨p, l, e, R, s, m, args, below, meth, kc, G, Λ', nL⟩ := X
  obtain ⟨hx, hb, hml, hown, hts, hK, hlk, hok, hR, hr, hL⟩ := F
  subst hL
  intro H locs ls hP hS hl
  exact lv_imul hx hb hd (k H locs ls hP hS hl)
theorem v_iand (F : Fx X cc own d rt Λ) {x y : Int32} (hd : decode cc pc = .ok (.iand, 1))  (k : V X post (pc + 1) lo (.int (x &&& y) :: st) μ) : V X post pc lo (.int y :: .int x :: st) μ := by
  obtain ⟨p, l, e, R, s, m, args, below, meth, kc, G, Λ', nL⟩ := X
  obtain ⟨hx, hb, hml, hown, hts, hK, hlk, hok, hR, hr, hL⟩ := F
  subst hL
  intro H locs ls hP hS hl
  exact lv_iand hx hb hd (k H locs ls hP hS hl)
theorem v_ior (F : Fx X cc own d rt Λ) {x y : Int32} (hd : decode cc pc = .ok (.ior, 1))  (k : V X post (pc + 1) lo (.int (x ||| y) :: st) μ) : V X post pc lo (.int y :: .int x :: st) μ := by
  obtain ⟨p, l, e, R, s, m, args, below, meth, kc, G, Λ', nL⟩ := X
  obtain ⟨hx, hb, hml, hown, hts, hK, hlk, hok, hR, hr, hL⟩ := F
  subst hL
  intro H locs ls hP hS hl
  exact lv_ior hx hb hd (k H locs ls hP hS hl)
theorem v_ixor (F : Fx X cc own d rt Λ) {x y : Int32} (hd : decode cc pc = .ok (.ixor, 1))  (k : V X post (pc + 1) lo (.int (x ^^^ y) :: st) μ) : V X post pc lo (.int y :: .int x :: st) μ := by
  obtain ⟨p, l, e, R, s, m, args, below, meth, kc, G, Λ', nL⟩ := X
  obtain ⟨hx, hb, hml, hown, hts, hK, hlk, hok, hR, hr, hL⟩ := F
  subst hL
  intro H locs ls hP hS hl
  exact lv_ixor hx hb hd (k H locs ls hP hS hl)
theorem v_ishl (F : Fx X cc own d rt Λ) {x y : Int32} (hd : decode cc pc = .ok (.ishl, 1))  (k : V X post (pc + 1) lo (.int (x <<< (y &&& 31)) :: st) μ) : V X post pc lo (.int y :: .int x :: st) μ := by
  obtain ⟨p, l, e, R, s, m, args, below, meth, kc, G, Λ', nL⟩ := X
  obtain ⟨hx, hb, hml, hown, hts, hK, hlk, hok, hR, hr, hL⟩ := F
  subst hL
  intro H locs ls hP hS hl
  exact lv_ishl hx hb hd (k H locs ls hP hS hl)
theorem v_ishr (F : Fx X cc own d rt Λ) {x y : Int32} (hd : decode cc pc = .ok (.ishr, 1))  (k : V X post (pc + 1) lo (.int (x >>> (y &&& 31)) :: st) μ) : V X post pc lo (.int y :: .int x :: st) μ := by
  obtain ⟨p, l, e, R, s, m, args, below, meth, kc, G, Λ', nL⟩ := X
  obtain ⟨hx, hb, hml, hown, hts, hK, hlk, hok, hR, hr, hL⟩ := F
  subst hL
  intro H locs ls hP hS hl
  exact lv_ishr hx hb hd (k H locs ls hP hS hl)
theorem v_ladd (F : Fx X cc own d rt Λ) {x y : Int64} (hd : decode cc pc = .ok (.ladd, 1))  (k : V X post (pc + 1) lo (.long (x + y) :: st) μ) : V X post pc lo (.long y :: .long x :: st) μ := by
  obtain ⟨p, l, e, R, s, m, args, below, meth, kc, G, Λ', nL⟩ := X
  obtain ⟨hx, hb, hml, hown, hts, hK, hlk, hok, hR, hr, hL⟩ := F
  subst hL
  intro H locs ls hP hS hl
  exact lv_ladd hx hb hd (k H locs ls hP hS hl)
theorem v_lsub (F : Fx X cc own d rt Λ) {x y : Int64} (hd : decode cc pc = .ok (.lsub, 1))  (k : V X post (pc + 1) lo (.long (x - y) :: st) μ) : V X post pc lo (.long y :: .long x :: st) μ := by
  obtain ⟨p, l, e, R, s, m, args, below, meth, kc, G, Λ', nL⟩ := X
  obtain ⟨hx, hb, hml, hown, hts, hK, hlk, hok, hR, hr, hL⟩ := F
  subst hL
  intro H locs ls hP hS hl
  exact lv_lsub hx hb hd (k H locs ls hP hS hl)
theorem v_lmul (F : Fx X cc own d rt Λ) {x y : Int64} (hd : decode cc pc = .ok (.lmul, 1))  (k : V X post (pc + 1) lo (.long (x * y) :: st) μ) : V X post pc lo (.long y :: .long x :: st) μ := by
  obtain ⟨p, l, e, R, s, m, args, below, meth, kc, G, Λ', nL⟩ := X
  obtain ⟨hx, hb, hml, hown, hts, hK, hlk, hok, hR, hr, hL⟩ := F
  subst hL
  intro H locs ls hP hS hl
  exact lv_lmul hx hb hd (k H locs ls hP hS hl)
theorem v_land (F : Fx X cc own d rt Λ) {x y : Int64} (hd : decode cc pc = .ok (.land, 1))  (k : V X post (pc + 1) lo (.long (x &&& y) :: st) μ) : V X post pc lo (.long y :: .long x :: st) μ := by
  obtain ⟨p, l, e, R, s, m, args, below, meth, kc, G, Λ', nL⟩ := X
  obtain ⟨hx, hb, hml, hown, hts, hK, hlk, hok, hR, hr, hL⟩ := F
  subst hL
  intro H locs ls hP hS hl
  exact lv_land hx hb hd (k H locs ls hP hS hl)
theorem v_lor (F : Fx X cc own d rt Λ) {x y : Int64} (hd : decode cc pc = .ok (.lor, 1))  (k : V X post (pc + 1) lo (.long (x ||| y) :: st) μ) : V X post pc lo (.long y :: .long x :: st) μ := by
  obtain ⟨p, l, e, R, s, m, args, below, meth, kc, G, Λ', nL⟩ := X
  obtain ⟨hx, hb, hml, hown, hts, hK, hlk, hok, hR, hr, hL⟩ := F
  subst hL
  intro H locs ls hP hS hl
  exact lv_lor hx hb hd (k H locs ls hP hS hl)
theorem v_idiv (F : Fx X cc own d rt Λ) {x y : Int32} (hd : decode cc pc = .ok (.idiv, 1)) (hne : ¬ y = 0) (k : V X post (pc + 1) lo (.int (x / y) :: st) μ) : V X post pc lo (.int y :: .int x :: st) μ := by
  obtain ⟨p, l, e, R, s, m, args, below, meth, kc, G, Λ', nL⟩ := X
  obtain ⟨hx, hb, hml, hown, hts, hK, hlk, hok, hR, hr, hL⟩ := F
  subst hL
  intro H locs ls hP hS hl
  exact lv_idiv hx hb hd hne (k H locs ls hP hS hl)
theorem v_irem (F : Fx X cc own d rt Λ) {x y : Int32} (hd : decode cc pc = .ok (.irem, 1)) (hne : ¬ y = 0) (k : V X post (pc + 1) lo (.int (x - x / y * y) :: st) μ) : V X post pc lo (.int y :: .int x :: st) μ := by
  obtain ⟨p, l, e, R, s, m, args, below, meth, kc, G, Λ', nL⟩ := X
  obtain ⟨hx, hb, hml, hown, hts, hK, hlk, hok, hR, hr, hL⟩ := F
  subst hL
  intro H locs ls hP hS hl
  exact lv_irem hx hb hd hne (k H locs ls hP hS hl)
theorem v_ldiv (F : Fx X cc own d rt Λ) {x y : Int64} (hd : decode cc pc = .ok (.ldiv, 1)) (hne : ¬ y = 0) (k : V X post (pc + 1) lo (.long (x / y) :: st) μ) : V X post pc lo (.long y :: .long x :: st) μ := by
  obtain ⟨p, l, e, R, s, m, args, below, meth, kc, G, Λ', nL⟩ := X
  obtain ⟨hx, hb, hml, hown, hts, hK, hlk, hok, hR, hr, hL⟩ := F
  subst hL
  intro H locs ls hP hS hl
  exact lv_ldiv hx hb hd hne (k H locs ls hP hS hl)
theorem v_ineg (F : Fx X cc own d rt Λ) {x : Int32} (hd : decode cc pc = .ok (.ineg, 1))  (k : V X post (pc + 1) lo (.int (-x) :: st) μ) : V X post pc lo (.int x :: st) μ := by
  obtain ⟨p, l, e, R, s, m, args, below, meth, kc, G, Λ', nL⟩ := X
  obtain ⟨hx, hb, hml, hown, hts, hK, hlk, hok, hR, hr, hL⟩ := F
  subst hL
  intro H locs ls hP hS hl
  exact lv_ineg hx hb hd (k H locs ls hP hS hl)
theorem v_iushr (F : Fx X cc own d rt Λ) {x y : Int32} (hd : decode cc pc = .ok (.iushr, 1))  (k : V X post (pc + 1) lo (.int (x.toUInt32 >>> (y.toUInt32 &&& Int32.toUInt32 31)).toInt32 :: st) μ) : V X post pc lo (.int y :: .int x :: st) μ := by
  obtain ⟨p, l, e, R, s, m, args, below, meth, kc, G, Λ', nL⟩ := X
  obtain ⟨hx, hb, hml, hown, hts, hK, hlk, hok, hR, hr, hL⟩ := F
  subst hL
  intro H locs ls hP hS hl
  exact lv_iushr hx hb hd rfl (k H locs ls hP hS hl)
theorem v_lshl (F : Fx X cc own d rt Λ) {x : Int64} {y : Int32} (hd : decode cc pc = .ok (.lshl, 1))  (k : V X post (pc + 1) lo (.long (x <<< (y.toInt64 &&& 63)) :: st) μ) : V X post pc lo (.int y :: .long x :: st) μ := by
  obtain ⟨p, l, e, R, s, m, args, below, meth, kc, G, Λ', nL⟩ := X
  obtain ⟨hx, hb, hml, hown, hts, hK, hlk, hok, hR, hr, hL⟩ := F
  subst hL
  intro H locs ls hP hS hl
  exact lv_lshl hx hb hd rfl (k H locs ls hP hS hl)
theorem v_i2l (F : Fx X cc own d rt Λ) {x : Int32} (hd : decode cc pc = .ok (.i2l, 1))  (k : V X post (pc + 1) lo (.long x.toInt64 :: st) μ) : V X post pc lo (.int x :: st) μ := by
  obtain ⟨p, l, e, R, s, m, args, below, meth, kc, G, Λ', nL⟩ := X
  obtain ⟨hx, hb, hml, hown, hts, hK, hlk, hok, hR, hr, hL⟩ := F
  subst hL
  intro H locs ls hP hS hl
  exact lv_i2l hx hb hd rfl (k H locs ls hP hS hl)
theorem v_l2i (F : Fx X cc own d rt Λ) {x : Int64} (hd : decode cc pc = .ok (.l2i, 1))  (k : V X post (pc + 1) lo (.int x.toInt32 :: st) μ) : V X post pc lo (.long x :: st) μ := by
  obtain ⟨p, l, e, R, s, m, args, below, meth, kc, G, Λ', nL⟩ := X
  obtain ⟨hx, hb, hml, hown, hts, hK, hlk, hok, hR, hr, hL⟩ := F
  subst hL
  intro H locs ls hP hS hl
  exact lv_l2i hx hb hd rfl (k H locs ls hP hS hl)
theorem v_i2b (F : Fx X cc own d rt Λ) {x : Int32} (hd : decode cc pc = .ok (.i2b, 1))  (k : V X post (pc + 1) lo (.int x.toInt8.toInt32 :: st) μ) : V X post pc lo (.int x :: st) μ := by
  obtain ⟨p, l, e, R, s, m, args, below, meth, kc, G, Λ', nL⟩ := X
  obtain ⟨hx, hb, hml, hown, hts, hK, hlk, hok, hR, hr, hL⟩ := F
  subst hL
  intro H locs ls hP hS hl
  exact lv_i2b hx hb hd rfl (k H locs ls hP hS hl)
theorem v_i2s (F : Fx X cc own d rt Λ) {x : Int32} (hd : decode cc pc = .ok (.i2s, 1))  (k : V X post (pc + 1) lo (.int x.toInt16.toInt32 :: st) μ) : V X post pc lo (.int x :: st) μ := by
  obtain ⟨p, l, e, R, s, m, args, below, meth, kc, G, Λ', nL⟩ := X
  obtain ⟨hx, hb, hml, hown, hts, hK, hlk, hok, hR, hr, hL⟩ := F
  subst hL
  intro H locs ls hP hS hl
  exact lv_i2s hx hb hd rfl (k H locs ls hP hS hl)
theorem v_lcmp (F : Fx X cc own d rt Λ) {x y : Int64} (hd : decode cc pc = .ok (.lcmp, 1))  (k : V X post (pc + 1) lo (.int (lg_cmp x y) :: st) μ) : V X post pc lo (.long y :: .long x :: st) μ := by
  obtain ⟨p, l, e, R, s, m, args, below, meth, kc, G, Λ', nL⟩ := X
  obtain ⟨hx, hb, hml, hown, hts, hK, hlk, hok, hR, hr, hL⟩ := F
  subst hL
  intro H locs ls hP hS hl
  exact W.lcmp hx hb hd (k H locs ls hP hS hl)
theorem v_dup (F : Fx X cc own d rt Λ) {a : Value} (hd : decode cc pc = .ok (.dup, 1)) (ha : a.category = 1) (k : V X post (pc + 1) lo (a :: a :: st) μ) : V X post pc lo (a :: st) μ := by
  obtain ⟨p, l, e, R, s, m, args, below, meth, kc, G, Λ', nL⟩ := X
  obtain ⟨hx, hb, hml, hown, hts, hK, hlk, hok, hR, hr, hL⟩ := F
  subst hL
  intro H locs ls hP hS hl
  exact lv_dup hx hb hd (by rw [j_cz_cat]; exact ha) (k H locs ls hP hS hl)
theorem v_dup2 (F : Fx X cc own d rt Λ) {a b : Value} (hd : decode cc pc = .ok (.dup2, 1)) (ha : a.category = 1) (hb2 : b.category = 1) (k : V X post (pc + 1) lo (a :: b :: a :: b :: st) μ) : V X post pc lo (a :: b :: st) μ := by
  obtain ⟨p, l, e, R, s, m, args, below, meth, kc, G, Λ', nL⟩ := X
  obtain ⟨hx, hb, hml, hown, hts, hK, hlk, hok, hR, hr, hL⟩ := F
  subst hL
  intro H locs ls hP hS hl
  exact lv_dup2_11 hx hb hd (by rw [j_cz_cat]; exact ha) (by rw [j_cz_cat]; exact hb2) (k H locs ls hP hS hl)
theorem v_dup_x1 (F : Fx X cc own d rt Λ) {a b : Value} (hd : decode cc pc = .ok (.dup_x1, 1)) (ha : a.category = 1) (hb2 : b.category = 1) (k : V X post (pc + 1) lo (a :: b :: a :: st) μ) : V X post pc lo (a :: b :: st) μ := by
  obtain ⟨p, l, e, R, s, m, args, below, meth, kc, G, Λ', nL⟩ := X
  obtain ⟨hx, hb, hml, hown, hts, hK, hlk, hok, hR, hr, hL⟩ := F
  subst hL
  intro H locs ls hP hS hl
  exact lv_dup_x1 hx hb hd (by rw [j_cz_cat]; exact ha) (by rw [j_cz_cat]; exact hb2) (k H locs ls hP hS hl)
theorem v_pop (F : Fx X cc own d rt Λ) {a : Value} (hd : decode cc pc = .ok (.pop, 1)) (ha : a.category = 1) (k : V X post (pc + 1) lo (st) μ) : V X post pc lo (a :: st) μ := by
  obtain ⟨p, l, e, R, s, m, args, below, meth, kc, G, Λ', nL⟩ := X
  obtain ⟨hx, hb, hml, hown, hts, hK, hlk, hok, hR, hr, hL⟩ := F
  subst hL
  intro H locs ls hP hS hl
  exact lv_pop hx hb hd (by rw [j_cz_cat]; exact ha) (k H locs ls hP hS hl)
theorem v_ldc (F : Fx X cc own d rt Λ) {index : Nat} {v : Int32} (hd : decode cc pc = .ok (.ldc index, 2)) (hc : Cond.constant own index v ∈ j_gw) (k : V X post (pc + 2) lo (.int v :: st) μ) : V X post pc lo (st) μ := by
  obtain ⟨p, l, e, R, s, m, args, below, meth, kc, G, Λ', nL⟩ := X
  obtain ⟨hx, hb, hml, hown, hts, hK, hlk, hok, hR, hr, hL⟩ := F
  subst hL
  intro H locs ls hP hS hl
  exact lv_ldc hx hb hown (hts _ hc) hd (k H locs ls hP hS hl)
theorem v_ldcw (F : Fx X cc own d rt Λ) {index : Nat} {v : Int32} (hd : decode cc pc = .ok (.ldc_w index, 3)) (hc : Cond.constant own index v ∈ j_gw) (k : V X post (pc + 3) lo (.int v :: st) μ) : V X post pc lo (st) μ := by
  obtain ⟨p, l, e, R, s, m, args, below, meth, kc, G, Λ', nL⟩ := X
  obtain ⟨hx, hb, hml, hown, hts, hK, hlk, hok, hR, hr, hL⟩ := F
  subst hL
  intro H locs ls hP hS hl
  exact lv_ldcw hx hb hown (hts _ hc) hd (k H locs ls hP hS hl)
theorem v_ldc2 (F : Fx X cc own d rt Λ) {index : Nat} {v : Int64} (hd : decode cc pc = .ok (.ldc2_w index, 3)) (hc : Cond.constantLong own index v ∈ j_gw) (k : V X post (pc + 3) lo (.long v :: st) μ) : V X post pc lo (st) μ := by
  obtain ⟨p, l, e, R, s, m, args, below, meth, kc, G, Λ', nL⟩ := X
  obtain ⟨hx, hb, hml, hown, hts, hK, hlk, hok, hR, hr, hL⟩ := F
  subst hL
  intro H locs ls hP hS hl
  exact lv_ldc2 hx hb hown (hts _ hc) hd (k H locs ls hP hS hl)
theorem v_icmp_eq (F : Fx X cc own d rt Λ) {x y : Int32} {off : Int} {tgt : Nat} (hd : decode cc pc = .ok (.if_icmp .eq off, 3)) (ht : (pc : Int) + off = (tgt : Int)) (kt : x = y → V X post tgt lo st μ) (kf : ¬ x = y → V X post (pc + 3) lo st μ) : V X post pc lo (.int y :: .int x :: st) μ := by
  obtain ⟨p, l, e, R, s, m, args, below, meth, kc, G, Λ', nL⟩ := X
  obtain ⟨hx, hb, hml, hown, hts, hK, hlk, hok, hR, hr, hL⟩ := F
  subst hL
  intro H locs ls hP hS hl
  exact lv_icmp_eq hx hb hd ht (fun h => kt h H locs ls hP hS hl) (fun h => kf h H locs ls hP hS hl)
theorem v_if_eq (F : Fx X cc own d rt Λ) {x : Int32} {off : Int} {tgt : Nat} (hd : decode cc pc = .ok (.ifCond .eq off, 3)) (ht : (pc : Int) + off = (tgt : Int)) (kt : x = 0 → V X post tgt lo st μ) (kf : ¬ x = 0 → V X post (pc + 3) lo st μ) : V X post pc lo (.int x :: st) μ := by
  obtain ⟨p, l, e, R, s, m, args, below, meth, kc, G, Λ', nL⟩ := X
  obtain ⟨hx, hb, hml, hown, hts, hK, hlk, hok, hR, hr, hL⟩ := F
  subst hL
  intro H locs ls hP hS hl
  exact lv_if_eq hx hb hd ht (fun h => kt h H locs ls hP hS hl) (fun h => kf h H locs ls hP hS hl)
theorem v_icmp_ne (F : Fx X cc own d rt Λ) {x y : Int32} {off : Int} {tgt : Nat} (hd : decode cc pc = .ok (.if_icmp .ne off, 3)) (ht : (pc : Int) + off = (tgt : Int)) (kt : ¬ x = y → V X post tgt lo st μ) (kf : x = y → V X post (pc + 3) lo st μ) : V X post pc lo (.int y :: .int x :: st) μ := by
  obtain ⟨p, l, e, R, s, m, args, below, meth, kc, G, Λ', nL⟩ := X
  obtain ⟨hx, hb, hml, hown, hts, hK, hlk, hok, hR, hr, hL⟩ := F
  subst hL
  intro H locs ls hP hS hl
  exact lv_icmp_ne hx hb hd ht (fun h => kt h H locs ls hP hS hl) (fun h => kf h H locs ls hP hS hl)
theorem v_if_ne (F : Fx X cc own d rt Λ) {x : Int32} {off : Int} {tgt : Nat} (hd : decode cc pc = .ok (.ifCond .ne off, 3)) (ht : (pc : Int) + off = (tgt : Int)) (kt : ¬ x = 0 → V X post tgt lo st μ) (kf : x = 0 → V X post (pc + 3) lo st μ) : V X post pc lo (.int x :: st) μ := by
  obtain ⟨p, l, e, R, s, m, args, below, meth, kc, G, Λ', nL⟩ := X
  obtain ⟨hx, hb, hml, hown, hts, hK, hlk, hok, hR, hr, hL⟩ := F
  subst hL
  intro H locs ls hP hS hl
  exact lv_if_ne hx hb hd ht (fun h => kt h H locs ls hP hS hl) (fun h => kf h H locs ls hP hS hl)
theorem v_icmp_lt (F : Fx X cc own d rt Λ) {x y : Int32} {off : Int} {tgt : Nat} (hd : decode cc pc = .ok (.if_icmp .lt off, 3)) (ht : (pc : Int) + off = (tgt : Int)) (kt : x < y → V X post tgt lo st μ) (kf : ¬ x < y → V X post (pc + 3) lo st μ) : V X post pc lo (.int y :: .int x :: st) μ := by
  obtain ⟨p, l, e, R, s, m, args, below, meth, kc, G, Λ', nL⟩ := X
  obtain ⟨hx, hb, hml, hown, hts, hK, hlk, hok, hR, hr, hL⟩ := F
  subst hL
  intro H locs ls hP hS hl
  exact lv_icmp_lt hx hb hd ht (fun h => kt h H locs ls hP hS hl) (fun h => kf h H locs ls hP hS hl)
theorem v_if_lt (F : Fx X cc own d rt Λ) {x : Int32} {off : Int} {tgt : Nat} (hd : decode cc pc = .ok (.ifCond .lt off, 3)) (ht : (pc : Int) + off = (tgt : Int)) (kt : x < 0 → V X post tgt lo st μ) (kf : ¬ x < 0 → V X post (pc + 3) lo st μ) : V X post pc lo (.int x :: st) μ := by
  obtain ⟨p, l, e, R, s, m, args, below, meth, kc, G, Λ', nL⟩ := X
  obtain ⟨hx, hb, hml, hown, hts, hK, hlk, hok, hR, hr, hL⟩ := F
  subst hL
  intro H locs ls hP hS hl
  exact lv_if_lt hx hb hd ht (fun h => kt h H locs ls hP hS hl) (fun h => kf h H locs ls hP hS hl)
theorem v_icmp_ge (F : Fx X cc own d rt Λ) {x y : Int32} {off : Int} {tgt : Nat} (hd : decode cc pc = .ok (.if_icmp .ge off, 3)) (ht : (pc : Int) + off = (tgt : Int)) (kt : y ≤ x → V X post tgt lo st μ) (kf : ¬ y ≤ x → V X post (pc + 3) lo st μ) : V X post pc lo (.int y :: .int x :: st) μ := by
  obtain ⟨p, l, e, R, s, m, args, below, meth, kc, G, Λ', nL⟩ := X
  obtain ⟨hx, hb, hml, hown, hts, hK, hlk, hok, hR, hr, hL⟩ := F
  subst hL
  intro H locs ls hP hS hl
  exact lv_icmp_ge hx hb hd ht (fun h => kt h H locs ls hP hS hl) (fun h => kf h H locs ls hP hS hl)
theorem v_if_ge (F : Fx X cc own d rt Λ) {x : Int32} {off : Int} {tgt : Nat} (hd : decode cc pc = .ok (.ifCond .ge off, 3)) (ht : (pc : Int) + off = (tgt : Int)) (kt : 0 ≤ x → V X post tgt lo st μ) (kf : ¬ 0 ≤ x → V X post (pc + 3) lo st μ) : V X post pc lo (.int x :: st) μ := by
  obtain ⟨p, l, e, R, s, m, args, below, meth, kc, G, Λ', nL⟩ := X
  obtain ⟨hx, hb, hml, hown, hts, hK, hlk, hok, hR, hr, hL⟩ := F
  subst hL
  intro H locs ls hP hS hl
  exact lv_if_ge hx hb hd ht (fun h => kt h H locs ls hP hS hl) (fun h => kf h H locs ls hP hS hl)
theorem v_icmp_gt (F : Fx X cc own d rt Λ) {x y : Int32} {off : Int} {tgt : Nat} (hd : decode cc pc = .ok (.if_icmp .gt off, 3)) (ht : (pc : Int) + off = (tgt : Int)) (kt : y < x → V X post tgt lo st μ) (kf : ¬ y < x → V X post (pc + 3) lo st μ) : V X post pc lo (.int y :: .int x :: st) μ := by
  obtain ⟨p, l, e, R, s, m, args, below, meth, kc, G, Λ', nL⟩ := X
  obtain ⟨hx, hb, hml, hown, hts, hK, hlk, hok, hR, hr, hL⟩ := F
  subst hL
  intro H locs ls hP hS hl
  exact lv_icmp_gt hx hb hd ht (fun h => kt h H locs ls hP hS hl) (fun h => kf h H locs ls hP hS hl)
theorem v_if_gt (F : Fx X cc own d rt Λ) {x : Int32} {off : Int} {tgt : Nat} (hd : decode cc pc = .ok (.ifCond .gt off, 3)) (ht : (pc : Int) + off = (tgt : Int)) (kt : 0 < x → V X post tgt lo st μ) (kf : ¬ 0 < x → V X post (pc + 3) lo st μ) : V X post pc lo (.int x :: st) μ := by
  obtain ⟨p, l, e, R, s, m, args, below, meth, kc, G, Λ', nL⟩ := X
  obtain ⟨hx, hb, hml, hown, hts, hK, hlk, hok, hR, hr, hL⟩ := F
  subst hL
  intro H locs ls hP hS hl
  exact lv_if_gt hx hb hd ht (fun h => kt h H locs ls hP hS hl) (fun h => kf h H locs ls hP hS hl)
theorem v_icmp_le (F : Fx X cc own d rt Λ) {x y : Int32} {off : Int} {tgt : Nat} (hd : decode cc pc = .ok (.if_icmp .le off, 3)) (ht : (pc : Int) + off = (tgt : Int)) (kt : x ≤ y → V X post tgt lo st μ) (kf : ¬ x ≤ y → V X post (pc + 3) lo st μ) : V X post pc lo (.int y :: .int x :: st) μ := by
  obtain ⟨p, l, e, R, s, m, args, below, meth, kc, G, Λ', nL⟩ := X
  obtain ⟨hx, hb, hml, hown, hts, hK, hlk, hok, hR, hr, hL⟩ := F
  subst hL
  intro H locs ls hP hS hl
  exact lv_icmp_le hx hb hd ht (fun h => kt h H locs ls hP hS hl) (fun h => kf h H locs ls hP hS hl)
theorem v_if_le (F : Fx X cc own d rt Λ) {x : Int32} {off : Int} {tgt : Nat} (hd : decode cc pc = .ok (.ifCond .le off, 3)) (ht : (pc : Int) + off = (tgt : Int)) (kt : x ≤ 0 → V X post tgt lo st μ) (kf : ¬ x ≤ 0 → V X post (pc + 3) lo st μ) : V X post pc lo (.int x :: st) μ := by
  obtain ⟨p, l, e, R, s, m, args, below, meth, kc, G, Λ', nL⟩ := X
  obtain ⟨hx, hb, hml, hown, hts, hK, hlk, hok, hR, hr, hL⟩ := F
  subst hL
  intro H locs ls hP hS hl
  exact lv_if_le hx hb hd ht (fun h => kt h H locs ls hP hS hl) (fun h => kf h H locs ls hP hS hl)
theorem v_goto (F : Fx X cc own d rt Λ) {off : Int} {tgt : Nat} (hd : decode cc pc = .ok (.goto off, 3)) (ht : (pc : Int) + off = (tgt : Int)) (k : V X post tgt lo st μ) : V X post pc lo st μ := by
  obtain ⟨p, l, e, R, s, m, args, below, meth, kc, G, Λ', nL⟩ := X
  obtain ⟨hx, hb, hml, hown, hts, hK, hlk, hok, hR, hr, hL⟩ := F
  subst hL
  intro H locs ls hP hS hl
  exact lv_goto hx hb hd ht (k H locs ls hP hS hl)
theorem v_tin (F : Fx X cc own d rt Λ) {dflt lo1 hi1 : Int} {offs : Array Int} {len : Nat} {x : Int32} {off : Int} {tgt : Nat} (hd : decode cc pc = .ok (.tableswitch dflt lo1 hi1 offs, len)) (h1 : ¬ x.toInt < lo1) (h2 : ¬ hi1 < x.toInt) (ho : offs[(x.toInt - lo1).toNat]? = some off) (ht : (pc : Int) + off = (tgt : Int)) (k : V X post tgt lo st μ) : V X post pc lo (.int x :: st) μ := by
  obtain ⟨p, l, e, R, s, m, args, below, meth, kc, G, Λ', nL⟩ := X
  obtain ⟨hx, hb, hml, hown, hts, hK, hlk, hok, hR, hr, hL⟩ := F
  subst hL
  intro H locs ls hP hS hl
  exact lv_tableIn hx hb hd h1 h2 ho ht (k H locs ls hP hS hl)
theorem v_tout (F : Fx X cc own d rt Λ) {dflt lo1 hi1 : Int} {offs : Array Int} {len : Nat} {x : Int32} {tgt : Nat} (hd : decode cc pc = .ok (.tableswitch dflt lo1 hi1 offs, len)) (h : x.toInt < lo1 ∨ hi1 < x.toInt) (ht : (pc : Int) + dflt = (tgt : Int)) (k : V X post tgt lo st μ) : V X post pc lo (.int x :: st) μ := by
  obtain ⟨p, l, e, R, s, m, args, below, meth, kc, G, Λ', nL⟩ := X
  obtain ⟨hx, hb, hml, hown, hts, hK, hlk, hok, hR, hr, hL⟩ := F
  subst hL
  intro H locs ls hP hS hl
  exact lv_tableOut hx hb hd h ht (k H locs ls hP hS hl)
/-- a field of the pool's objects, as a method of 'own' names it at its place 'idx': field j of a cell of kind c -/
def j_fl (own : String) (idx c j : Nat) (ty : FieldType) (fin : Bool) : Prop := ∃ (C : String) (T : u_T) (N : Nat) (t0 : Nat → FieldType), vwCl[c]? = some (C, T, N) ∧ c < 11 ∧ j < N ∧ N = j_nf c ∧ (∀ w ∈ u_ws C T N, w ∈ j_gw) ∧ (∀ k, k < N → parseFieldDescriptor (T k).2.2.1 = some (t0 k)) ∧ (∀ a, a < N → ∀ b, b < N → a ≠ b → (T a).2.1 ≠ (T b).2.1) ∧ parseFieldDescriptor (T j).2.2.1 = some ty ∧ (T j).2.2.2 = fin ∧ ((Cond.fieldLink own idx (T j).1 (T j).2.1 (T j).2.2.1 ∈ j_gw) ∨ ∃ host, Cond.fieldLinkNest own idx (T j).1 (T j).2.1 (T j).2.2.1 host ∈ j_nw)
def j_ob (Λ : j_L) (i c : Nat) : Prop := i < Λ.1 ∧ Λ.2.1 i = c
def j_is (Λ : j_L) (i c n : Nat) : Prop := i < Λ.1 ∧ Λ.2.1 i = c ∧ Λ.2.2 i = n
theorem j_fs_get {G : j_G} {μ : j_M} {i c j : Nat} (h : j < j_nf c) : (j_fs G μ i c)[j]? = some (j_fv G μ i c j) := by
  simp [j_fs, h]
theorem v_get (F : Fx X cc own d rt Λ) {i c j idx : Nat} {ty : FieldType} {fin : Bool} (h : j_fl own idx c j ty fin) (hd : decode cc pc = .ok (.getfield idx, 3)) (ho : j_ob Λ i c) {v : Value} (hv : ∀ G : j_G, j_fv G μ i c j = j_cz G v) (k : V X post (pc + 3) lo (v :: st) μ) : V X post pc lo (.ref i :: st) μ := by
  obtain ⟨p, l, e, R, s, m, args, below, meth, kc, G, Λ', nL⟩ := X
  obtain ⟨hx, hb, hml, hown, hts, hK, hlk, hok, hR, hr, hL⟩ := F
  subst hL
  intro H locs ls hP hS hl
  obtain ⟨C, T, N, t0, g1, g2, g3, g4, g5, g6, g7, g8, g9, g10⟩ := h
  have hw := j_obj (G := G) (μ := μ) ho.1 ho.2 g2
  have hv1 : (j_fs G μ i c)[j]? = some (j_cz G v) := by rw [j_fs_get (by omega), hv]
  rcases g10 with g | ⟨host, g⟩
  · exact va_get hx hb hts g5 hown hK.1 hP i hw g1 j g3 (hts _ g) (fun _ h9 => h9) hv1 hd (k H locs ls hP hS hl)
  · exact va_getN hx hb hts g5 hown hK.1 hP i hw g1 j g3 (va_Nw.use rfl (hK.2.1 _ g)) (fun _ h9 => h9) hv1 hd (k H locs ls hP hS hl)
theorem v_getI (F : Fx X cc own d rt Λ) {i c j idx : Nat} {ty : FieldType} {fin : Bool} (h : j_fl own idx c j ty fin) (hd : decode cc pc = .ok (.getfield idx, 3)) (hf : j_fo c j = none) (ho : j_ob Λ i c) (k : V X post (pc + 3) lo (.int (μ.1 i j) :: st) μ) : V X post pc lo (.ref i :: st) μ := v_get F h hd ho (fun G => by unfold j_fv; rw [hf]; rfl) k
theorem v_getR (F : Fx X cc own d rt Λ) {i c j idx o : Nat} {ty : FieldType} {fin : Bool} (h : j_fl own idx c j ty fin) (hd : decode cc pc = .ok (.getfield idx, 3)) (hf : j_fo c j = some o) (ho : j_ob Λ i c) (k : V X post (pc + 3) lo (.ref (i + o) :: st) μ) : V X post pc lo (.ref i :: st) μ := v_get F h hd ho (fun G => by unfold j_fv; rw [hf]; rfl) k
theorem v_put (F : Fx X cc own d rt Λ) {i c j idx : Nat} {ty : FieldType} {x : Int32} (h : j_fl own idx c j ty false) (hd : decode cc pc = .ok (.putfield idx, 3)) (hf : j_fo c j = none) (hn : narrow ty (.int x) = .int x) (hfit : fits ty (.int x) = true) (ho : j_ob Λ i c) (k : V X post (pc + 3) lo st (j_pI μ i j x)) : V X post pc lo (.int x :: .ref i :: st) μ := by
  obtain ⟨p, l, e, R, s, m, args, below, meth, kc, G, Λ', nL⟩ := X
  obtain ⟨hx, hb, hml, hown, hts, hK, hlk, hok, hR, hr, hL⟩ := F
  subst hL
  intro H locs ls hP hS hl
  obtain ⟨C, T, N, t0, g1, g2, g3, g4, g5, g6, g7, g8, g9, g10⟩ := h
  have hw := j_obj (G := G) (μ := μ) ho.1 ho.2 g2
  have hlen : j < (j_fs G μ i c).length := by simp [j_fs]; omega
  have key : ∀ (H1 : Heap) (locs1 : List Loc), va_P (G.1, G.2.1) vwCl ((j_wl G Λ' μ).set i (j_ad G i, .inr (c, (j_fs G μ i c).set j (.int x)))) H1 → va_D (j_A G Λ') ((j_wl G Λ' μ).set i (j_ad G i, .inr (c, (j_fs G μ i c).set j (.int x)))) → va_S (j_A G Λ') s.heap H1 locs1 → W p l e R s m args below meth kc H1 locs1 0 0 (MQ below (j_Q G Λ' post) args s 0 0 (j_A G Λ')) (F0 m (pc + 3) ls (st.map (j_cz G))) := by
    intro H1 locs1 h1 _ h3
    rw [j_setI ho.1 ho.2 g2 (by omega) hf] at h1
    exact k H1 locs1 ls h1 h3 hl
  rcases g10 with g | ⟨host, g⟩
  · exact va_put hx hb hts g5 t0 g6 g7 hown hK.1 hP (j_D hok) hS i hw g1 j g3 (hts _ g) (fun _ h9 => h9) g9 g8 hn hfit hlen hd key
  · exact va_putN hx hb hts g5 t0 g6 g7 hown hK.1 hP (j_D hok) hS i hw g1 j g3 (va_Nw.use rfl (hK.2.1 _ g)) (fun _ h9 => h9) g9 g8 hn hfit hlen hd key
theorem v_iald (F : Fx X cc own d rt Λ) {a n : Nat} {j : Int32} (hd : decode cc pc = .ok (.iaload, 1)) (ha : j_is Λ a 11 n) (hin : vp_in j n) (k : V X post (pc + 1) lo (.int (μ.1 a j.toNatClampNeg) :: st) μ) : V X post pc lo (.int j :: .ref a :: st) μ := by
  obtain ⟨p, l, e, R, s, m, args, below, meth, kc, G, Λ', nL⟩ := X
  obtain ⟨hx, hb, hml, hown, hts, hK, hlk, hok, hR, hr, hL⟩ := F
  subst hL
  intro H locs ls hP hS hl
  exact va_iald hx hb hK.1 hP a 0 (j_arr ha.1 ha.2.1 (by decide) ha.2.2) rfl hin hd (k H locs ls hP hS hl)
theorem v_lald (F : Fx X cc own d rt Λ) {a n : Nat} {j : Int32} (hd : decode cc pc = .ok (.laload, 1)) (ha : j_is Λ a 12 n) (hin : vp_in j n) (k : V X post (pc + 1) lo (.long (μ.2 a j.toNatClampNeg) :: st) μ) : V X post pc lo (.int j :: .ref a :: st) μ := by
  obtain ⟨p, l, e, R, s, m, args, below, meth, kc, G, Λ', nL⟩ := X
  obtain ⟨hx, hb, hml, hown, hts, hK, hlk, hok, hR, hr, hL⟩ := F
  subst hL
  intro H locs ls hP hS hl
  exact va_lald hx hb hK.1 hP a 1 (j_arr ha.1 ha.2.1 (by decide) ha.2.2) rfl hin hd (k H locs ls hP hS hl)
theorem v_zald (F : Fx X cc own d rt Λ) {a n : Nat} {j : Int32} (hd : decode cc pc = .ok (.baload, 1)) (ha : j_is Λ a 13 n) (hin : vp_in j n) (k : V X post (pc + 1) lo (.int (μ.1 a j.toNatClampNeg) :: st) μ) : V X post pc lo (.int j :: .ref a :: st) μ := by
  obtain ⟨p, l, e, R, s, m, args, below, meth, kc, G, Λ', nL⟩ := X
  obtain ⟨hx, hb, hml, hown, hts, hK, hlk, hok, hR, hr, hL⟩ := F
  subst hL
  intro H locs ls hP hS hl
  exact va_zald hx hb hK.1 hP a 2 (j_arr ha.1 ha.2.1 (by decide) ha.2.2) rfl hin hd (k H locs ls hP hS hl)
theorem v_aald14 (F : Fx X cc own d rt Λ) {a n : Nat} {j : Int32} (hd : decode cc pc = .ok (.aaload, 1)) (ha : j_is Λ a 14 n) (hin : vp_in j n) (k : V X post (pc + 1) lo (.ref (j_ro 14 a j.toNatClampNeg) :: st) μ) : V X post pc lo (.int j :: .ref a :: st) μ := by
  obtain ⟨p, l, e, R, s, m, args, below, meth, kc, G, Λ', nL⟩ := X
  obtain ⟨hx, hb, hml, hown, hts, hK, hlk, hok, hR, hr, hL⟩ := F
  subst hL
  intro H locs ls hP hS hl
  exact va_aldq hx hb hK.1 hP a 3 (j_arr ha.1 ha.2.1 (by decide) ha.2.2) rfl hin hd (k H locs ls hP hS hl)
theorem v_aald15 (F : Fx X cc own d rt Λ) {a n : Nat} {j : Int32} (hd : decode cc pc = .ok (.aaload, 1)) (ha : j_is Λ a 15 n) (hin : vp_in j n) (k : V X post (pc + 1) lo (.ref (j_ro 15 a j.toNatClampNeg) :: st) μ) : V X post pc lo (.int j :: .ref a :: st) μ := by
  obtain ⟨p, l, e, R, s, m, args, below, meth, kc, G, Λ', nL⟩ := X
  obtain ⟨hx, hb, hml, hown, hts, hK, hlk, hok, hR, hr, hL⟩ := F
  subst hL
  intro H locs ls hP hS hl
  exact va_aldq hx hb hK.1 hP a 4 (j_arr ha.1 ha.2.1 (by decide) ha.2.2) rfl hin hd (k H locs ls hP hS hl)
theorem v_iast (F : Fx X cc own d rt Λ) {a n : Nat} {j : Int32} {x : Int32} (hd : decode cc pc = .ok (.iastore, 1)) (ha : j_is Λ a 11 n) (hin : vp_in j n) (k : V X post (pc + 1) lo st (j_pI μ a j.toNatClampNeg x)) : V X post pc lo (.int x :: .int j :: .ref a :: st) μ := by
  obtain ⟨p, l, e, R, s, m, args, below, meth, kc, G, Λ', nL⟩ := X
  obtain ⟨hx, hb, hml, hown, hts, hK, hlk, hok, hR, hr, hL⟩ := F
  subst hL
  intro H locs ls hP hS hl
  refine va_iast hx hb hK.1 hP (j_D hok) hS a 0 (j_arr ha.1 ha.2.1 (by decide) ha.2.2) rfl hin hd (fun H1 locs1 h1 _ h3 => ?_)
  rw [j_setA ha.1 ha.2.1 (Or.inl rfl) ha.2.2] at h1
  exact k H1 locs1 ls h1 h3 hl
theorem v_zast (F : Fx X cc own d rt Λ) {a n : Nat} {j : Int32} {x : Int32} (hd : decode cc pc = .ok (.bastore, 1)) (ha : j_is Λ a 13 n) (hin : vp_in j n) (k : V X post (pc + 1) lo st (j_pI μ a j.toNatClampNeg (vp_nar .boolean x))) : V X post pc lo (.int x :: .int j :: .ref a :: st) μ := by
  obtain ⟨p, l, e, R, s, m, args, below, meth, kc, G, Λ', nL⟩ := X
  obtain ⟨hx, hb, hml, hown, hts, hK, hlk, hok, hR, hr, hL⟩ := F
  subst hL
  intro H locs ls hP hS hl
  refine va_zast hx hb hK.1 hP (j_D hok) hS a 2 (j_arr ha.1 ha.2.1 (by decide) ha.2.2) rfl hin hd (fun H1 locs1 h1 _ h3 => ?_)
  rw [j_setA ha.1 ha.2.1 (Or.inr rfl) ha.2.2] at h1
  exact k H1 locs1 ls h1 h3 hl
theorem v_last (F : Fx X cc own d rt Λ) {a n : Nat} {j : Int32} {x : Int64} (hd : decode cc pc = .ok (.lastore, 1)) (ha : j_is Λ a 12 n) (hin : vp_in j n) (k : V X post (pc + 1) lo st (j_pL μ a j.toNatClampNeg x)) : V X post pc lo (.long x :: .int j :: .ref a :: st) μ := by
  obtain ⟨p, l, e, R, s, m, args, below, meth, kc, G, Λ', nL⟩ := X
  obtain ⟨hx, hb, hml, hown, hts, hK, hlk, hok, hR, hr, hL⟩ := F
  subst hL
  intro H locs ls hP hS hl
  refine va_last hx hb hK.1 hP (j_D hok) hS a 1 (j_arr ha.1 ha.2.1 (by decide) ha.2.2) rfl hin hd (fun H1 locs1 h1 _ h3 => ?_)
  rw [j_setJ ha.1 ha.2.1 ha.2.2] at h1
  exact k H1 locs1 ls h1 h3 hl
theorem v_alen (F : Fx X cc own d rt Λ) {a n : Nat} {kd : Nat} (t0 : Nat) (hd : decode cc pc = .ok (.arraylength, 1)) (ha : j_is Λ a kd n) (hk : ¬ kd < 11) (ht : ∀ G : j_G, ∃ ty, (j_tys G)[t0]? = some (G.2.2.1 kd, ty)) (k : V X post (pc + 1) lo (.int (Int32.ofNat n) :: st) μ) : V X post pc lo (.ref a :: st) μ := by
  obtain ⟨p, l, e, R, s, m, args, below, meth, kc, G, Λ', nL⟩ := X
  obtain ⟨hx, hb, hml, hown, hts, hK, hlk, hok, hR, hr, hL⟩ := F
  subst hL
  intro H locs ls hP hS hl
  obtain ⟨ty, ht⟩ := ht G
  exact va_alen hx hb hK.1 hP a t0 (j_arr ha.1 ha.2.1 hk ha.2.2) ht rfl hd (k H locs ls hP hS hl)
end rows
