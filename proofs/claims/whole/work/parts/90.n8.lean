def R_law : String := "SeenInOrderOfAgeLaw"
def lw_P (b : Addr) (xs : List Int32) (args : Array Value) (s : State) : Prop := args = #[.ref b] ∧ s.IntsAt b xs ∧ xs.length ≤ 3072 ∧ (Jvm.Cond.and given_1 narrow_1).before args s = true
def lw_Q (_ : Array Value) (s : State) (o : Outcome) (t : State) : Prop := o = .returned (some (.int 1)) ∧ Framed s o t [] 600000 7302250
def lw_Z (below : List Frame) (a : Array Value) (s : State) : State → Prop := fun t => ∃ o, t.status = .running ∧ Ended t below o ∧ lw_Q a s o t
/-- the law's own end, with 1 on the stack, nothing written that was there before, its room as the claim has it -/
theorem lw_ret {p : Program} {l : Launch} {e : Env} {s : State} {m : MethodId} {below : List Frame} {meth : Method} {c : Code} {b : Nat} (hx : p.tables.exec = Jvm.exec) (hb : c.code = code) (hr : meth.sig.returnType = ret) (hlocks : meth.locks = false) {pc : Nat} {H : Heap} {ls : Array Slot} (hdg : decode code pc = .ok (.ireturn, 1)) : W p l e room_1 s m #[Value.ref b] below meth c H [] 600000 7302250 (lw_Z below #[Value.ref b] s) (F0 m pc ls [.int 1]) := by
  intro T hT X
  obtain ⟨fs, hret, hrun, hended, hW, hframe⟩ := X.leave (v := some (.int 1)) (hlocks := hlocks) (fun h => by rw [hr] at h; cases h)
  have hmeth' : T.vm.method? m = some meth := X.method'
  refine ⟨T.setFrames fs, ?_, .returned (some (.int 1)), hrun, hended, rfl, ⟨_, rfl⟩, hW, hframe⟩
  jvm_step X.here [X.here.top, hx, hb, hdg, hmeth', hr, ret, narrow_b1]
  (try refine ⟨rfl, ?_⟩); (try refine ⟨rfl, ?_⟩)
  first | (intro acts; rw [hret _ acts rfl rfl rfl]) | rw [hret _ _ rfl rfl rfl]
  exact Steps.refl _
/-- what holds at the law's entry: the machine, the code, the tables' words (any of lw_tbl by 'hts w (by decide +kernel)'), the script of L ints xs at the cell b, what the Statement gives of the start (any of its parts by flat_of_before) -/
def lw_At (p : Program) (s : State) (m : MethodId) (meth : Method) (c : Code) (b L : Nat) (xs : Nat → Int32) : Prop :=
  p.tables.exec = Jvm.exec ∧ c.code = code ∧ meth.sig.returnType = ret ∧ c.maxLocals = 4 ∧ s.vm.findClass R_law = some m.cls ∧ (∀ w ∈ lw_tbl, w.before #[Value.ref b] s = true) ∧ va_X b L xs s s.heap ∧ b < s.heap.size ∧ meth.locks = false ∧ (Jvm.Cond.and given_1 narrow_1).before #[Value.ref b] s = true

/-! the law: its state is the two pools, the loop's number i and the script -/
abbrev lX : Type := Program × Launch × Env × State × MethodId × List Frame × Method × Code × Nat × Nat × (Nat → Int32) × j_G × j_G
def lL (X : lX) : Nat := X.2.2.2.2.2.2.2.2.2.1
def lxs (X : lX) : Nat → Int32 := X.2.2.2.2.2.2.2.2.2.2.1
def lgx (X : lX) : j_G := X.2.2.2.2.2.2.2.2.2.2.2.1
def lgm (X : lX) : j_G := X.2.2.2.2.2.2.2.2.2.2.2.2
def lloc (b : Nat) (Gx Gm : j_G) (i : Nat) : List (Nat × Value) := [(3, .int (nI i)), (2, .ref (j_ad Gm 0)), (1, .ref (j_ad Gx 0)), (0, .ref b)]
def LV (X : lX) (pc i : Nat) (st : List Value) (μ ν : j_M) : Prop := match X with
  | (p, l, e, s, m, below, meth, c, b, L, xs, Gx, Gm) => ∀ (H : Heap) (locs : List Loc) (ls : Array Slot), j_P Gx ΛX μ H → j_P Gm ΛM ν H → va_S (fun q : Nat => s.heap.size ≤ q) s.heap H locs → lv_has ls 4 (lloc b Gx Gm i) → W p l e room_1 s m #[Value.ref b] below meth c H locs 145 2430 (lw_Z below #[Value.ref b] s) (F0 m pc ls st)
def LF (X : lX) : Prop := match X with
  | (p, l, e, s, m, below, meth, c, b, L, xs, Gx, Gm) => p.tables.exec = Jvm.exec ∧ c.code = code ∧ c.maxLocals = 4 ∧ s.vm.findClass RL = some m.cls ∧ (∀ w ∈ j_gw, w.before #[Value.ref b] s = true) ∧ va_X b L xs s s.heap ∧ b < s.heap.size ∧ L ≤ 3072 ∧ j_K Gx ΛX s ∧ j_K Gm ΛM s ∧ j_ok Gx ΛX ∧ j_ok Gm ΛM ∧ (∀ i, i < ΛX.1 → s.heap.size ≤ j_ad Gx i) ∧ (∀ i, i < ΛM.1 → s.heap.size ≤ j_ad Gm i) ∧ (∀ i j, i < ΛX.1 → j < ΛM.1 → j_ad Gx i ≠ j_ad Gm j) ∧ meth.sig.returnType = ret ∧ meth.locks = false
theorem j_wl_ad {G : j_G} {Λ : j_L} {μ : j_M} {k : Nat} {q : Nat × va_E} (hk : (j_wl G Λ μ)[k]? = some q) : k < Λ.1 ∧ q.1 = j_ad G k := by
  have hl : k < Λ.1 := by
    have h1 := (List.getElem?_eq_some_iff.mp hk).1
    unfold j_wl at h1
    rw [List.length_map, List.length_range] at h1
    exact h1
  rw [j_at hl] at hk
  cases hk
  exact ⟨hl, rfl⟩
section lawrows
variable {X : lX} {pc i : Nat} {st : List Value} {μ ν : j_M}

theorem lr_x (F : LF X)  (hd : decode code pc = .ok (.aload_n 1, 1)) (k : LV X (pc + 1) i (.ref (j_ad (lgx X) 0) :: st) μ ν) : LV X pc i st μ ν := by
  obtain ⟨p, l, e, s, m, below, meth, c, b, L, xs, Gx, Gm⟩ := X
  obtain ⟨hx, hb, hml, hown, hts, hX, hbl, hL, hKx, hKm, okx, okm, hax, ham, hxm, hret, hlocks⟩ := F
  intro H locs ls hP hM hS hl
  have hl : lv_has ls 4 [(3, .int (nI i)), (2, .ref (j_ad Gm 0)), (1, .ref (j_ad Gx 0)), (0, .ref b)] := hl
  exact lv_aload_n hx hb hd rfl (lv_at hl 2 rfl) (k H locs ls hP hM hS hl)

theorem lr_m (F : LF X)  (hd : decode code pc = .ok (.aload_n 2, 1)) (k : LV X (pc + 1) i (.ref (j_ad (lgm X) 0) :: st) μ ν) : LV X pc i st μ ν := by
  obtain ⟨p, l, e, s, m, below, meth, c, b, L, xs, Gx, Gm⟩ := X
  obtain ⟨hx, hb, hml, hown, hts, hX, hbl, hL, hKx, hKm, okx, okm, hax, ham, hxm, hret, hlocks⟩ := F
  intro H locs ls hP hM hS hl
  have hl : lv_has ls 4 [(3, .int (nI i)), (2, .ref (j_ad Gm 0)), (1, .ref (j_ad Gx 0)), (0, .ref b)] := hl
  exact lv_aload_n hx hb hd rfl (lv_at hl 1 rfl) (k H locs ls hP hM hS hl)

theorem lr_bipush (F : LF X) {n : Int} {v : Int32} (hd : decode code pc = .ok (.bipush n, 2)) (hv : (Int8.ofInt n).toInt32 = v) (k : LV X (pc + 2) i (.int v :: st) μ ν) : LV X pc i st μ ν := by
  obtain ⟨p, l, e, s, m, below, meth, c, b, L, xs, Gx, Gm⟩ := X
  obtain ⟨hx, hb, hml, hown, hts, hX, hbl, hL, hKx, hKm, okx, okm, hax, ham, hxm, hret, hlocks⟩ := F
  intro H locs ls hP hM hS hl
  have hl : lv_has ls 4 [(3, .int (nI i)), (2, .ref (j_ad Gm 0)), (1, .ref (j_ad Gx 0)), (0, .ref b)] := hl
  exact lv_bipush hx hb hd hv (k H locs ls hP hM hS hl)

theorem lr_iconst (F : LF X) {n : Int} {v : Int32} (hd : decode code pc = .ok (.iconst n, 1)) (hv : Int32.ofInt n = v) (k : LV X (pc + 1) i (.int v :: st) μ ν) : LV X pc i st μ ν := by
  obtain ⟨p, l, e, s, m, below, meth, c, b, L, xs, Gx, Gm⟩ := X
  obtain ⟨hx, hb, hml, hown, hts, hX, hbl, hL, hKx, hKm, okx, okm, hax, ham, hxm, hret, hlocks⟩ := F
  intro H locs ls hP hM hS hl
  have hl : lv_has ls 4 [(3, .int (nI i)), (2, .ref (j_ad Gm 0)), (1, .ref (j_ad Gx 0)), (0, .ref b)] := hl
  exact lv_iconst hx hb hd hv (k H locs ls hP hM hS hl)

theorem lr_iand (F : LF X) {x y : Int32} (hd : decode code pc = .ok (.iand, 1)) (k : LV X (pc + 1) i (.int (x &&& y) :: st) μ ν) : LV X pc i (.int y :: .int x :: st) μ ν := by
  obtain ⟨p, l, e, s, m, below, meth, c, b, L, xs, Gx, Gm⟩ := X
  obtain ⟨hx, hb, hml, hown, hts, hX, hbl, hL, hKx, hKm, okx, okm, hax, ham, hxm, hret, hlocks⟩ := F
  intro H locs ls hP hM hS hl
  have hl : lv_has ls 4 [(3, .int (nI i)), (2, .ref (j_ad Gm 0)), (1, .ref (j_ad Gx 0)), (0, .ref b)] := hl
  exact lv_iand hx hb hd (k H locs ls hP hM hS hl)

theorem lr_land (F : LF X) {x y : Int64} (hd : decode code pc = .ok (.land, 1)) (k : LV X (pc + 1) i (.long (x &&& y) :: st) μ ν) : LV X pc i (.long y :: .long x :: st) μ ν := by
  obtain ⟨p, l, e, s, m, below, meth, c, b, L, xs, Gx, Gm⟩ := X
  obtain ⟨hx, hb, hml, hown, hts, hX, hbl, hL, hKx, hKm, okx, okm, hax, ham, hxm, hret, hlocks⟩ := F
  intro H locs ls hP hM hS hl
  have hl : lv_has ls 4 [(3, .int (nI i)), (2, .ref (j_ad Gm 0)), (1, .ref (j_ad Gx 0)), (0, .ref b)] := hl
  exact lv_land hx hb hd (k H locs ls hP hM hS hl)

theorem lr_lor (F : LF X) {x y : Int64} (hd : decode code pc = .ok (.lor, 1)) (k : LV X (pc + 1) i (.long (x ||| y) :: st) μ ν) : LV X pc i (.long y :: .long x :: st) μ ν := by
  obtain ⟨p, l, e, s, m, below, meth, c, b, L, xs, Gx, Gm⟩ := X
  obtain ⟨hx, hb, hml, hown, hts, hX, hbl, hL, hKx, hKm, okx, okm, hax, ham, hxm, hret, hlocks⟩ := F
  intro H locs ls hP hM hS hl
  have hl : lv_has ls 4 [(3, .int (nI i)), (2, .ref (j_ad Gm 0)), (1, .ref (j_ad Gx 0)), (0, .ref b)] := hl
  exact lv_lor hx hb hd (k H locs ls hP hM hS hl)

theorem lr_lshl (F : LF X) {x : Int64} {y : Int32} (hd : decode code pc = .ok (.lshl, 1)) (k : LV X (pc + 1) i (.long (x <<< (y.toInt64 &&& 63)) :: st) μ ν) : LV X pc i (.int y :: .long x :: st) μ ν := by
  obtain ⟨p, l, e, s, m, below, meth, c, b, L, xs, Gx, Gm⟩ := X
  obtain ⟨hx, hb, hml, hown, hts, hX, hbl, hL, hKx, hKm, okx, okm, hax, ham, hxm, hret, hlocks⟩ := F
  intro H locs ls hP hM hS hl
  have hl : lv_has ls 4 [(3, .int (nI i)), (2, .ref (j_ad Gm 0)), (1, .ref (j_ad Gx 0)), (0, .ref b)] := hl
  exact lv_lshl hx hb hd rfl (k H locs ls hP hM hS hl)

theorem lr_i2l (F : LF X) {x : Int32} (hd : decode code pc = .ok (.i2l, 1)) (k : LV X (pc + 1) i (.long x.toInt64 :: st) μ ν) : LV X pc i (.int x :: st) μ ν := by
  obtain ⟨p, l, e, s, m, below, meth, c, b, L, xs, Gx, Gm⟩ := X
  obtain ⟨hx, hb, hml, hown, hts, hX, hbl, hL, hKx, hKm, okx, okm, hax, ham, hxm, hret, hlocks⟩ := F
  intro H locs ls hP hM hS hl
  have hl : lv_has ls 4 [(3, .int (nI i)), (2, .ref (j_ad Gm 0)), (1, .ref (j_ad Gx 0)), (0, .ref b)] := hl
  exact lv_i2l hx hb hd rfl (k H locs ls hP hM hS hl)

theorem lr_ldc2 (F : LF X) {index : Nat} {v : Int64} (hd : decode code pc = .ok (.ldc2_w index, 3)) (hc : Cond.constantLong RL index v ∈ j_gw) (k : LV X (pc + 3) i (.long v :: st) μ ν) : LV X pc i st μ ν := by
  obtain ⟨p, l, e, s, m, below, meth, c, b, L, xs, Gx, Gm⟩ := X
  obtain ⟨hx, hb, hml, hown, hts, hX, hbl, hL, hKx, hKm, okx, okm, hax, ham, hxm, hret, hlocks⟩ := F
  intro H locs ls hP hM hS hl
  have hl : lv_has ls 4 [(3, .int (nI i)), (2, .ref (j_ad Gm 0)), (1, .ref (j_ad Gx 0)), (0, .ref b)] := hl
  exact lv_ldc2 hx hb hown (hts _ hc) hd (k H locs ls hP hM hS hl)

theorem lr_goto (F : LF X) {off : Int} {tgt : Nat} (hd : decode code pc = .ok (.goto off, 3)) (ht : (pc : Int) + off = (tgt : Int)) (k : LV X tgt i st μ ν) : LV X pc i st μ ν := by
  obtain ⟨p, l, e, s, m, below, meth, c, b, L, xs, Gx, Gm⟩ := X
  obtain ⟨hx, hb, hml, hown, hts, hX, hbl, hL, hKx, hKm, okx, okm, hax, ham, hxm, hret, hlocks⟩ := F
  intro H locs ls hP hM hS hl
  have hl : lv_has ls 4 [(3, .int (nI i)), (2, .ref (j_ad Gm 0)), (1, .ref (j_ad Gx 0)), (0, .ref b)] := hl
  exact lv_goto hx hb hd ht (k H locs ls hP hM hS hl)

theorem lr_eq (F : LF X) {x y : Int32} {off : Int} {tgt : Nat} (hd : decode code pc = .ok (.if_icmp .eq off, 3)) (ht : (pc : Int) + off = (tgt : Int)) (hxy : x = y) (k : LV X tgt i st μ ν) : LV X pc i (.int y :: .int x :: st) μ ν := by
  obtain ⟨p, l, e, s, m, below, meth, c, b, L, xs, Gx, Gm⟩ := X
  obtain ⟨hx, hb, hml, hown, hts, hX, hbl, hL, hKx, hKm, okx, okm, hax, ham, hxm, hret, hlocks⟩ := F
  intro H locs ls hP hM hS hl
  have hl : lv_has ls 4 [(3, .int (nI i)), (2, .ref (j_ad Gm 0)), (1, .ref (j_ad Gx 0)), (0, .ref b)] := hl
  exact lv_icmp_eq hx hb hd ht (fun _ => k H locs ls hP hM hS hl) (fun h => absurd hxy h)

theorem lr_leq (F : LF X) {x y : Int64} {off : Int} {tgt : Nat} (hd : decode code pc = .ok (.lcmp, 1)) (hd2 : decode code (pc + 1) = .ok (.ifCond .eq off, 3)) (ht : ((pc + 1 : Nat) : Int) + off = (tgt : Int)) (hxy : x = y) (k : LV X tgt i st μ ν) : LV X pc i (.long y :: .long x :: st) μ ν := by
  obtain ⟨p, l, e, s, m, below, meth, c, b, L, xs, Gx, Gm⟩ := X
  obtain ⟨hx, hb, hml, hown, hts, hX, hbl, hL, hKx, hKm, okx, okm, hax, ham, hxm, hret, hlocks⟩ := F
  intro H locs ls hP hM hS hl
  have hl : lv_has ls 4 [(3, .int (nI i)), (2, .ref (j_ad Gm 0)), (1, .ref (j_ad Gx 0)), (0, .ref b)] := hl
  exact W.lcmp hx hb hd (lv_if_eq hx hb hd2 ht (fun _ => k H locs ls hP hM hS hl) (fun h => absurd ((lg_cmp_eq _ _).mpr hxy) h))

theorem lr_ld0 (F : LF X) (hk : i + 6 ≤ lL X) (d0 : decode code pc = .ok (.aload_n 0, 1)) (d1 : decode code (pc + 1) = .ok (.iload_n 3, 1)) (d4 : decode code (pc + 2) = .ok (.iaload, 1)) (k : LV X (pc + 3) i (.int (lxs X i) :: st) μ ν) : LV X pc i st μ ν := by
  obtain ⟨p, l, e, s, m, below, meth, c, b, L, xs, Gx, Gm⟩ := X
  obtain ⟨hx, hb, hml, hown, hts, hX, hbl, hL, hKx, hKm, okx, okm, hax, ham, hxm, hret, hlocks⟩ := F
  intro H locs ls hP hM hS hl
  have hl : lv_has ls 4 [(3, .int (nI i)), (2, .ref (j_ad Gm 0)), (1, .ref (j_ad Gx 0)), (0, .ref b)] := hl
  have hbA : ¬ (fun q : Nat => s.heap.size ≤ q) b := Nat.not_le.mpr hbl
  have hk : i + 6 ≤ L := hk
  refine lv_aload_n hx hb d0 rfl (lv_at hl 3 rfl) ?_
  refine lv_iload_n hx hb d1 rfl (lv_at hl 0 rfl) ?_
  refine va_sld hx hb hX hbl hbA hS (vp_in_nI (show i < L by omega) (by omega)) d4 ?_
  rw [nI_clamp (by omega)]
  exact k H locs ls hP hM hS hl
theorem lr_ld {j : Nat} (F : LF X) (hk : i + 6 ≤ lL X) (hj : j < 6) (d0 : decode code pc = .ok (.aload_n 0, 1)) (d1 : decode code (pc + 1) = .ok (.iload_n 3, 1)) (d2 : decode code (pc + 2) = .ok (.iconst (j : Int), 1)) (d3 : decode code (pc + 3) = .ok (.iadd, 1)) (d4 : decode code (pc + 4) = .ok (.iaload, 1)) (k : LV X (pc + 5) i (.int (lxs X (i + j)) :: st) μ ν) : LV X pc i st μ ν := by
  obtain ⟨p, l, e, s, m, below, meth, c, b, L, xs, Gx, Gm⟩ := X
  obtain ⟨hx, hb, hml, hown, hts, hX, hbl, hL, hKx, hKm, okx, okm, hax, ham, hxm, hret, hlocks⟩ := F
  intro H locs ls hP hM hS hl
  have hl : lv_has ls 4 [(3, .int (nI i)), (2, .ref (j_ad Gm 0)), (1, .ref (j_ad Gx 0)), (0, .ref b)] := hl
  have hbA : ¬ (fun q : Nat => s.heap.size ≤ q) b := Nat.not_le.mpr hbl
  have hk : i + 6 ≤ L := hk
  refine lv_aload_n hx hb d0 rfl (lv_at hl 3 rfl) ?_
  refine lv_iload_n hx hb d1 rfl (lv_at hl 0 rfl) ?_
  refine lv_iconst (v := nI j) hx hb d2 rfl ?_
  refine lv_iadd hx hb d3 ?_
  rw [nI_add]
  refine va_sld hx hb hX hbl hbA hS (vp_in_nI (show i + j < L by omega) (by omega)) d4 ?_
  rw [nI_clamp (by omega)]
  exact k H locs ls hP hM hS hl
/-- 'v != 0' as an argument -/
theorem lr_bool (F : LF X) {x : Int32} {o1 o2 : Int} {p1 p2 : Nat} (d0 : decode code pc = .ok (.ifCond .eq o1, 3)) (h1 : (pc : Int) + o1 = (p1 : Int)) (d1 : decode code (pc + 3) = .ok (.iconst 1, 1)) (d2 : decode code (pc + 4) = .ok (.goto o2, 3)) (h2 : ((pc + 4 : Nat) : Int) + o2 = (p2 : Int)) (d3 : decode code p1 = .ok (.iconst 0, 1)) (h3 : p1 + 1 = p2) (k : LV X p2 i (.int (if x = 0 then 0 else 1) :: st) μ ν) : LV X pc i (.int x :: st) μ ν := by
  obtain ⟨p, l, e, s, m, below, meth, c, b, L, xs, Gx, Gm⟩ := X
  obtain ⟨hx, hb, hml, hown, hts, hX, hbl, hL, hKx, hKm, okx, okm, hax, ham, hxm, hret, hlocks⟩ := F
  intro H locs ls hP hM hS hl
  have hl : lv_has ls 4 [(3, .int (nI i)), (2, .ref (j_ad Gm 0)), (1, .ref (j_ad Gx 0)), (0, .ref b)] := hl
  refine lv_if_eq hx hb d0 h1 (fun h => ?_) (fun h => ?_)
  · refine lv_iconst (v := 0) hx hb d3 (by decide) ?_
    rw [h3]
    have q := k H locs ls hP hM hS hl
    rw [if_pos h] at q
    exact q
  · refine lv_iconst (v := 1) hx hb d1 (by decide) ?_
    refine lv_goto (tgt := p2) hx hb d2 h2 ?_
    have q := k H locs ls hP hM hS hl
    rw [if_neg h] at q
    exact q

theorem lr_callxI (F : LF X) {y : MethodName} {cy : ByteArray} {ny n idx d : Nat} {ry : Option FieldType} {As rest st : List Value} {f : Int32 → j_M → Prop} (hm : j_my y cy ny ry n) (hi : Cond.methodLink RL idx y ∈ j_gw) (hs : Cond.instanceMethod y ∈ j_gw) (hse : Cond.selects y.cls y y ∈ j_gw) (hd : decode code pc = .ok (.invokevirtual idx, 3)) (hcl : RX9 = y.cls)
    (hC : Ct y cy ny ry d ΛX (.ref 0 :: As) μ (pI f)) (hn : As.length = n) (hdd : d ≤ 100) (hst : st = (As.map (j_cz (lgx X))).reverse ++ .ref (j_ad (lgx X) 0) :: rest) (hw : (rest.map fun v => v.category).sum ≤ 8) (k : ∀ (x : Int32) (μ2 : j_M), f x μ2 → LV X (pc + 3) i (.int x :: rest) μ2 ν) : LV X pc i st μ ν := by
  obtain ⟨p, l, e, s, m, below, meth, c, b, L, xs, Gx, Gm⟩ := X
  obtain ⟨hx, hb, hml, hown, hts, hX, hbl, hL, hKx, hKm, okx, okm, hax, ham, hxm, hret, hlocks⟩ := F
  intro H locs ls hP hM hS hl
  have hl : lv_has ls 4 [(3, .int (nI i)), (2, .ref (j_ad Gm 0)), (1, .ref (j_ad Gx 0)), (0, .ref b)] := hl
  obtain ⟨m1, m2, m3, m4, m5⟩ := hm
  subst hst
  have hS0 : va_S (j_A Gx ΛX) s.heap H [] := ⟨hS.1, fun q h1 _ => hS.2.1 q h1 (Nat.not_le.mpr h1), fun l h => by cases h⟩
  have hob : j_ob ΛX 0 9 := ⟨by decide +kernel, by decide +kernel⟩
  have hrecv := va_recv hKx.1 hP (q := (RX9, TX9, 12)) (ci := 9) rfl (j_obj (G := Gx) (μ := μ) hob.1 hob.2 (by decide))
  rw [show (RX9, TX9, 12).1 = y.cls from hcl] at hrecv
  have hps : PreV s H y.cls (j_ad Gx 0) (j_Pc Gx ΛX (.ref 0 :: As) μ) (As.map (j_cz Gx)) := ⟨j_blind, hrecv, fun U hU hW => j_pre hP hS0 hKx hU hW⟩
  have hroom : (j_rm d).frames + 1 ≤ room_1.frames ∧ 8 + (ny + 11) + (j_rm d).locals ≤ room_1.locals := by
    refine ⟨show d + 1 ≤ 2048 by omega, ?_⟩
    show 8 + (ny + 11) + 40 * d ≤ 84000
    omega
  have run := va_runV (C := y.cls) (g := F0 m pc ls ((As.map (j_cz Gx)).reverse ++ .ref (j_ad Gx 0) :: rest)) (cells := 145) (slots := 2430) (R := room_1) (l := l) (e := e) (below := below) (meth := meth) (locs := locs) ⟨hx, hb, hml, hown, hts⟩ (hC l Gx okx) ⟨callB_of (ws' := j_gw) n hts (j_goodS m1) rfl rfl rfl (hts _ m2) (hts _ hi) ⟨m3.1, m3.2, m4⟩ hroom, hts _ hs, hts _ hse⟩ hps rfl (by rw [List.length_map]; exact hn) hl.1 rfl (lv_room hw) hd ⟨Nat.le_of_ble_eq_true rfl, Nat.le_of_ble_eq_true rfl⟩
  intro T hT XX
  obtain ⟨v, st₀, t, T', L', h0, X', hL', e1, e2, ⟨r, μ2, hv, hp2, hP', hz, hk⟩, stp⟩ := run T hT XX
  cases hv
  rw [h0] at hz hk
  obtain ⟨x, rfl, hf⟩ := hp2
  have hnA : ∀ q : Nat, q < s.heap.size → ¬ j_A Gx ΛX q := fun q h1 z => by
    obtain ⟨i1, hi1, rfl⟩ := z
    exact absurd (hax i1 hi1) (Nat.not_le.mpr h1)
  have hS' : va_S (fun q : Nat => s.heap.size ≤ q) s.heap T'.heap (locs ++ L') := ⟨Nat.le_trans hS.1 (by rw [e1]; exact hz), fun q h1 h2 => by rw [e1, hk q (Nat.lt_of_lt_of_le h1 hS.1) (hnA q h1)]; exact hS.2.1 q h1 h2, fun q hq => by
    rcases List.mem_append.mp hq with h | h
    · exact hS.2.2 q h
    · exact Nat.not_lt.mp (fun h9 => hnA _ h9 (hL' q h))⟩
  have hO : j_P Gm ΛM ν T'.heap := va_P.kept hM (fun k1 q hkq => by
    rw [e1]
    refine hk q.1 ((hM k1 q hkq).lt) (fun z => by
        obtain ⟨i1, hi1, e1⟩ := z
        obtain ⟨hk1, e2⟩ := j_wl_ad hkq
        exact hxm i1 k1 hi1 hk1 (e1.symm.trans e2)))
  have hN : j_P Gx ΛX μ2 T'.heap := by rw [e1]; exact hP'
  obtain ⟨t2, a1, b1⟩ := k x μ2 hf T'.heap (locs ++ L') ls hN hO hS' hl T' rfl X'
  exact ⟨t2, stp t2 a1, b1⟩

theorem lr_callxJ (F : LF X) {y : MethodName} {cy : ByteArray} {ny n idx d : Nat} {ry : Option FieldType} {As rest st : List Value} {f : Int64 → j_M → Prop} (hm : j_my y cy ny ry n) (hi : Cond.methodLink RL idx y ∈ j_gw) (hs : Cond.instanceMethod y ∈ j_gw) (hse : Cond.selects y.cls y y ∈ j_gw) (hd : decode code pc = .ok (.invokevirtual idx, 3)) (hcl : RX9 = y.cls)
    (hC : Ct y cy ny ry d ΛX (.ref 0 :: As) μ (pJ f)) (hn : As.length = n) (hdd : d ≤ 100) (hst : st = (As.map (j_cz (lgx X))).reverse ++ .ref (j_ad (lgx X) 0) :: rest) (hw : (rest.map fun v => v.category).sum ≤ 8) (k : ∀ (x : Int64) (μ2 : j_M), f x μ2 → LV X (pc + 3) i (.long x :: rest) μ2 ν) : LV X pc i st μ ν := by
  obtain ⟨p, l, e, s, m, below, meth, c, b, L, xs, Gx, Gm⟩ := X
  obtain ⟨hx, hb, hml, hown, hts, hX, hbl, hL, hKx, hKm, okx, okm, hax, ham, hxm, hret, hlocks⟩ := F
  intro H locs ls hP hM hS hl
  have hl : lv_has ls 4 [(3, .int (nI i)), (2, .ref (j_ad Gm 0)), (1, .ref (j_ad Gx 0)), (0, .ref b)] := hl
  obtain ⟨m1, m2, m3, m4, m5⟩ := hm
  subst hst
  have hS0 : va_S (j_A Gx ΛX) s.heap H [] := ⟨hS.1, fun q h1 _ => hS.2.1 q h1 (Nat.not_le.mpr h1), fun l h => by cases h⟩
  have hob : j_ob ΛX 0 9 := ⟨by decide +kernel, by decide +kernel⟩
  have hrecv := va_recv hKx.1 hP (q := (RX9, TX9, 12)) (ci := 9) rfl (j_obj (G := Gx) (μ := μ) hob.1 hob.2 (by decide))
  rw [show (RX9, TX9, 12).1 = y.cls from hcl] at hrecv
  have hps : PreV s H y.cls (j_ad Gx 0) (j_Pc Gx ΛX (.ref 0 :: As) μ) (As.map (j_cz Gx)) := ⟨j_blind, hrecv, fun U hU hW => j_pre hP hS0 hKx hU hW⟩
  have hroom : (j_rm d).frames + 1 ≤ room_1.frames ∧ 8 + (ny + 11) + (j_rm d).locals ≤ room_1.locals := by
    refine ⟨show d + 1 ≤ 2048 by omega, ?_⟩
    show 8 + (ny + 11) + 40 * d ≤ 84000
    omega
  have run := va_runV (C := y.cls) (g := F0 m pc ls ((As.map (j_cz Gx)).reverse ++ .ref (j_ad Gx 0) :: rest)) (cells := 145) (slots := 2430) (R := room_1) (l := l) (e := e) (below := below) (meth := meth) (locs := locs) ⟨hx, hb, hml, hown, hts⟩ (hC l Gx okx) ⟨callB_of (ws' := j_gw) n hts (j_goodS m1) rfl rfl rfl (hts _ m2) (hts _ hi) ⟨m3.1, m3.2, m4⟩ hroom, hts _ hs, hts _ hse⟩ hps rfl (by rw [List.length_map]; exact hn) hl.1 rfl (lv_room hw) hd ⟨Nat.le_of_ble_eq_true rfl, Nat.le_of_ble_eq_true rfl⟩
  intro T hT XX
  obtain ⟨v, st₀, t, T', L', h0, X', hL', e1, e2, ⟨r, μ2, hv, hp2, hP', hz, hk⟩, stp⟩ := run T hT XX
  cases hv
  rw [h0] at hz hk
  obtain ⟨x, rfl, hf⟩ := hp2
  have hnA : ∀ q : Nat, q < s.heap.size → ¬ j_A Gx ΛX q := fun q h1 z => by
    obtain ⟨i1, hi1, rfl⟩ := z
    exact absurd (hax i1 hi1) (Nat.not_le.mpr h1)
  have hS' : va_S (fun q : Nat => s.heap.size ≤ q) s.heap T'.heap (locs ++ L') := ⟨Nat.le_trans hS.1 (by rw [e1]; exact hz), fun q h1 h2 => by rw [e1, hk q (Nat.lt_of_lt_of_le h1 hS.1) (hnA q h1)]; exact hS.2.1 q h1 h2, fun q hq => by
    rcases List.mem_append.mp hq with h | h
    · exact hS.2.2 q h
    · exact Nat.not_lt.mp (fun h9 => hnA _ h9 (hL' q h))⟩
  have hO : j_P Gm ΛM ν T'.heap := va_P.kept hM (fun k1 q hkq => by
    rw [e1]
    refine hk q.1 ((hM k1 q hkq).lt) (fun z => by
        obtain ⟨i1, hi1, e1⟩ := z
        obtain ⟨hk1, e2⟩ := j_wl_ad hkq
        exact hxm i1 k1 hi1 hk1 (e1.symm.trans e2)))
  have hN : j_P Gx ΛX μ2 T'.heap := by rw [e1]; exact hP'
  obtain ⟨t2, a1, b1⟩ := k x μ2 hf T'.heap (locs ++ L') ls hN hO hS' hl T' rfl X'
  exact ⟨t2, stp t2 a1, b1⟩

theorem lr_callmI (F : LF X) {y : MethodName} {cy : ByteArray} {ny n idx d : Nat} {ry : Option FieldType} {As rest st : List Value} {f : Int32 → j_M → Prop} (hm : j_my y cy ny ry n) (hi : Cond.methodLink RL idx y ∈ j_gw) (hs : Cond.instanceMethod y ∈ j_gw) (hse : Cond.selects y.cls y y ∈ j_gw) (hd : decode code pc = .ok (.invokevirtual idx, 3)) (hcl : RX10 = y.cls)
    (hC : Ct y cy ny ry d ΛM (.ref 0 :: As) ν (pI f)) (hn : As.length = n) (hdd : d ≤ 100) (hst : st = (As.map (j_cz (lgm X))).reverse ++ .ref (j_ad (lgm X) 0) :: rest) (hw : (rest.map fun v => v.category).sum ≤ 8) (k : ∀ (x : Int32) (μ2 : j_M), f x μ2 → LV X (pc + 3) i (.int x :: rest) μ μ2) : LV X pc i st μ ν := by
  obtain ⟨p, l, e, s, m, below, meth, c, b, L, xs, Gx, Gm⟩ := X
  obtain ⟨hx, hb, hml, hown, hts, hX, hbl, hL, hKx, hKm, okx, okm, hax, ham, hxm, hret, hlocks⟩ := F
  intro H locs ls hP hM hS hl
  have hl : lv_has ls 4 [(3, .int (nI i)), (2, .ref (j_ad Gm 0)), (1, .ref (j_ad Gx 0)), (0, .ref b)] := hl
  obtain ⟨m1, m2, m3, m4, m5⟩ := hm
  subst hst
  have hS0 : va_S (j_A Gm ΛM) s.heap H [] := ⟨hS.1, fun q h1 _ => hS.2.1 q h1 (Nat.not_le.mpr h1), fun l h => by cases h⟩
  have hob : j_ob ΛM 0 10 := ⟨by decide +kernel, by decide +kernel⟩
  have hrecv := va_recv hKm.1 hM (q := (RX10, TX10, 33)) (ci := 10) rfl (j_obj (G := Gm) (μ := ν) hob.1 hob.2 (by decide))
  rw [show (RX10, TX10, 33).1 = y.cls from hcl] at hrecv
  have hps : PreV s H y.cls (j_ad Gm 0) (j_Pc Gm ΛM (.ref 0 :: As) ν) (As.map (j_cz Gm)) := ⟨j_blind, hrecv, fun U hU hW => j_pre hM hS0 hKm hU hW⟩
  have hroom : (j_rm d).frames + 1 ≤ room_1.frames ∧ 8 + (ny + 11) + (j_rm d).locals ≤ room_1.locals := by
    refine ⟨show d + 1 ≤ 2048 by omega, ?_⟩
    show 8 + (ny + 11) + 40 * d ≤ 84000
    omega
  have run := va_runV (C := y.cls) (g := F0 m pc ls ((As.map (j_cz Gm)).reverse ++ .ref (j_ad Gm 0) :: rest)) (cells := 145) (slots := 2430) (R := room_1) (l := l) (e := e) (below := below) (meth := meth) (locs := locs) ⟨hx, hb, hml, hown, hts⟩ (hC l Gm okm) ⟨callB_of (ws' := j_gw) n hts (j_goodS m1) rfl rfl rfl (hts _ m2) (hts _ hi) ⟨m3.1, m3.2, m4⟩ hroom, hts _ hs, hts _ hse⟩ hps rfl (by rw [List.length_map]; exact hn) hl.1 rfl (lv_room hw) hd ⟨Nat.le_of_ble_eq_true rfl, Nat.le_of_ble_eq_true rfl⟩
  intro T hT XX
  obtain ⟨v, st₀, t, T', L', h0, X', hL', e1, e2, ⟨r, μ2, hv, hp2, hP', hz, hk⟩, stp⟩ := run T hT XX
  cases hv
  rw [h0] at hz hk
  obtain ⟨x, rfl, hf⟩ := hp2
  have hnA : ∀ q : Nat, q < s.heap.size → ¬ j_A Gm ΛM q := fun q h1 z => by
    obtain ⟨i1, hi1, rfl⟩ := z
    exact absurd (ham i1 hi1) (Nat.not_le.mpr h1)
  have hS' : va_S (fun q : Nat => s.heap.size ≤ q) s.heap T'.heap (locs ++ L') := ⟨Nat.le_trans hS.1 (by rw [e1]; exact hz), fun q h1 h2 => by rw [e1, hk q (Nat.lt_of_lt_of_le h1 hS.1) (hnA q h1)]; exact hS.2.1 q h1 h2, fun q hq => by
    rcases List.mem_append.mp hq with h | h
    · exact hS.2.2 q h
    · exact Nat.not_lt.mp (fun h9 => hnA _ h9 (hL' q h))⟩
  have hO : j_P Gx ΛX μ T'.heap := va_P.kept hP (fun k1 q hkq => by
    rw [e1]
    refine hk q.1 ((hP k1 q hkq).lt) (fun z => by
        obtain ⟨i1, hi1, e1⟩ := z
        obtain ⟨hk1, e2⟩ := j_wl_ad hkq
        exact hxm k1 i1 hk1 hi1 (e2.symm.trans e1)))
  have hN : j_P Gm ΛM μ2 T'.heap := by rw [e1]; exact hP'
  obtain ⟨t2, a1, b1⟩ := k x μ2 hf T'.heap (locs ++ L') ls hO hN hS' hl T' rfl X'
  exact ⟨t2, stp t2 a1, b1⟩

theorem lr_callmJ (F : LF X) {y : MethodName} {cy : ByteArray} {ny n idx d : Nat} {ry : Option FieldType} {As rest st : List Value} {f : Int64 → j_M → Prop} (hm : j_my y cy ny ry n) (hi : Cond.methodLink RL idx y ∈ j_gw) (hs : Cond.instanceMethod y ∈ j_gw) (hse : Cond.selects y.cls y y ∈ j_gw) (hd : decode code pc = .ok (.invokevirtual idx, 3)) (hcl : RX10 = y.cls)
    (hC : Ct y cy ny ry d ΛM (.ref 0 :: As) ν (pJ f)) (hn : As.length = n) (hdd : d ≤ 100) (hst : st = (As.map (j_cz (lgm X))).reverse ++ .ref (j_ad (lgm X) 0) :: rest) (hw : (rest.map fun v => v.category).sum ≤ 8) (k : ∀ (x : Int64) (μ2 : j_M), f x μ2 → LV X (pc + 3) i (.long x :: rest) μ μ2) : LV X pc i st μ ν := by
  obtain ⟨p, l, e, s, m, below, meth, c, b, L, xs, Gx, Gm⟩ := X
  obtain ⟨hx, hb, hml, hown, hts, hX, hbl, hL, hKx, hKm, okx, okm, hax, ham, hxm, hret, hlocks⟩ := F
  intro H locs ls hP hM hS hl
  have hl : lv_has ls 4 [(3, .int (nI i)), (2, .ref (j_ad Gm 0)), (1, .ref (j_ad Gx 0)), (0, .ref b)] := hl
  obtain ⟨m1, m2, m3, m4, m5⟩ := hm
  subst hst
  have hS0 : va_S (j_A Gm ΛM) s.heap H [] := ⟨hS.1, fun q h1 _ => hS.2.1 q h1 (Nat.not_le.mpr h1), fun l h => by cases h⟩
  have hob : j_ob ΛM 0 10 := ⟨by decide +kernel, by decide +kernel⟩
  have hrecv := va_recv hKm.1 hM (q := (RX10, TX10, 33)) (ci := 10) rfl (j_obj (G := Gm) (μ := ν) hob.1 hob.2 (by decide))
  rw [show (RX10, TX10, 33).1 = y.cls from hcl] at hrecv
  have hps : PreV s H y.cls (j_ad Gm 0) (j_Pc Gm ΛM (.ref 0 :: As) ν) (As.map (j_cz Gm)) := ⟨j_blind, hrecv, fun U hU hW => j_pre hM hS0 hKm hU hW⟩
  have hroom : (j_rm d).frames + 1 ≤ room_1.frames ∧ 8 + (ny + 11) + (j_rm d).locals ≤ room_1.locals := by
    refine ⟨show d + 1 ≤ 2048 by omega, ?_⟩
    show 8 + (ny + 11) + 40 * d ≤ 84000
    omega
  have run := va_runV (C := y.cls) (g := F0 m pc ls ((As.map (j_cz Gm)).reverse ++ .ref (j_ad Gm 0) :: rest)) (cells := 145) (slots := 2430) (R := room_1) (l := l) (e := e) (below := below) (meth := meth) (locs := locs) ⟨hx, hb, hml, hown, hts⟩ (hC l Gm okm) ⟨callB_of (ws' := j_gw) n hts (j_goodS m1) rfl rfl rfl (hts _ m2) (hts _ hi) ⟨m3.1, m3.2, m4⟩ hroom, hts _ hs, hts _ hse⟩ hps rfl (by rw [List.length_map]; exact hn) hl.1 rfl (lv_room hw) hd ⟨Nat.le_of_ble_eq_true rfl, Nat.le_of_ble_eq_true rfl⟩
  intro T hT XX
  obtain ⟨v, st₀, t, T', L', h0, X', hL', e1, e2, ⟨r, μ2, hv, hp2, hP', hz, hk⟩, stp⟩ := run T hT XX
  cases hv
  rw [h0] at hz hk
  obtain ⟨x, rfl, hf⟩ := hp2
  have hnA : ∀ q : Nat, q < s.heap.size → ¬ j_A Gm ΛM q := fun q h1 z => by
    obtain ⟨i1, hi1, rfl⟩ := z
    exact absurd (ham i1 hi1) (Nat.not_le.mpr h1)
  have hS' : va_S (fun q : Nat => s.heap.size ≤ q) s.heap T'.heap (locs ++ L') := ⟨Nat.le_trans hS.1 (by rw [e1]; exact hz), fun q h1 h2 => by rw [e1, hk q (Nat.lt_of_lt_of_le h1 hS.1) (hnA q h1)]; exact hS.2.1 q h1 h2, fun q hq => by
    rcases List.mem_append.mp hq with h | h
    · exact hS.2.2 q h
    · exact Nat.not_lt.mp (fun h9 => hnA _ h9 (hL' q h))⟩
  have hO : j_P Gx ΛX μ T'.heap := va_P.kept hP (fun k1 q hkq => by
    rw [e1]
    refine hk q.1 ((hP k1 q hkq).lt) (fun z => by
        obtain ⟨i1, hi1, e1⟩ := z
        obtain ⟨hk1, e2⟩ := j_wl_ad hkq
        exact hxm k1 i1 hk1 hi1 (e2.symm.trans e1)))
  have hN : j_P Gm ΛM μ2 T'.heap := by rw [e1]; exact hP'
  obtain ⟨t2, a1, b1⟩ := k x μ2 hf T'.heap (locs ++ L') ls hO hN hS' hl T' rfl X'
  exact ⟨t2, stp t2 a1, b1⟩

end lawrows
