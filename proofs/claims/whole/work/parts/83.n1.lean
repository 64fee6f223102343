/-! the constructors: array classes are known from the start; a world is a segment of cells, whose references point inside it -/
theorem cd_oi : Cond.code objectInit ⟨#[0xb1]⟩ 1 none ∈ j_gw := j_mem (j_c1 (i := 28) (by decide +kernel)) rfl
def n_rm (d k n : Nat) : Room := { frames := d, cells := k, slots := n, locals := 40 * d }
def n_T (k : Nat → ClassId) : List (ClassId × FieldType) := [(k 11, .int), (k 12, .long), (k 13, .boolean), (k 14, .object RX3), (k 15, .object RX5)]
def n_K (D : va_G) (k : Nat → ClassId) (U : State) : Prop := va_K D vwCl (n_T k) U ∧ (∀ w ∈ j_nw, va_Nw w U) ∧ va_AO RX3 U ∧ va_AO RX5 U
theorem n_K.warm {D : va_G} {k : Nat → ClassId} {s U : State} (h : n_K D k s) (hW : s.WarmedH U.vm) : n_K D k U := ⟨va_K.moved hW.alike h.1, j_nw_warm hW h.2.1, va_AO.moved hW.alike h.2.2.1, va_AO.moved hW.alike h.2.2.2⟩
theorem n_K.call {D : va_G} {k : Nat → ClassId} {U : State} {g : JFrame} {mk : MethodId} {a : Array Value} (h : n_K D k U) : n_K D k (U.calling g mk a) := ⟨va_K.moved (u := U) (U := U.calling g mk a) (Vm.Alike.refl U.vm) h.1, j_nw_same (s := U) (U := U.calling g mk a) rfl h.2.1, va_AO.moved (u := U) (U := U.calling g mk a) (Vm.Alike.refl U.vm) h.2.2.1, va_AO.moved (u := U) (U := U.calling g mk a) (Vm.Alike.refl U.vm) h.2.2.2⟩
abbrev n_L : Type := List (Nat × Nat)
def n_dv (c : Nat × Nat) (j : Nat) : Int32 := if c.1 = 4 then (if j = 7 then 1 else 0) else if c.1 = 5 then (if j = 1 then -1 else 0) else if c.1 = 7 then (if j = 3 then -1 else 0) else if c.1 = 11 then (if c.2 = 12 then -1 else 0) else 0
def n_g (L : n_L) (i : Nat) : Nat × Nat := L.getD i (99, 0)
def n_Λ (L : n_L) : j_L := (L.length, fun i => (n_g L i).1, fun i => (n_g L i).2)
def n_m (L : n_L) : j_M := (fun i j => n_dv (n_g L i) j, fun _ _ => 0)
def n_G (D : va_G) (k : Nat → ClassId) (a : Nat → Nat) : j_G := (D.1, D.2, k, a)
def n_w (D : va_G) (k : Nat → ClassId) (L : n_L) (a : Nat → Nat) : va_W := j_wl (n_G D k a) (n_Λ L) (n_m L)
def n_en (D : va_G) (k : Nat → ClassId) (L : n_L) (a : Nat → Nat) (i : Nat) : va_E := j_en (n_G D k a) (n_Λ L) (n_m L) i
theorem n_w_at {D : va_G} {k : Nat → ClassId} {L : n_L} {a : Nat → Nat} {i : Nat} (h : i < L.length) : (n_w D k L a)[i]? = some (a i, n_en D k L a i) := j_at h
theorem n_w_iff {D : va_G} {k : Nat → ClassId} {L : n_L} {a : Nat → Nat} {H : Heap} : va_P D vwCl (n_w D k L a) H ↔ ∀ i, i < L.length → va_at D vwCl (a i, n_en D k L a i) H := by
  refine ⟨fun h i hi => h i _ (n_w_at hi), fun h i q hq => ?_⟩
  have hl : i < L.length := by
    have h1 := (List.getElem?_eq_some_iff.mp hq).1
    unfold n_w j_wl at h1
    rw [List.length_map, List.length_range] at h1
    exact h1
  rw [n_w_at hl] at hq
  cases hq
  exact h i hl
theorem n_w_fst {D : va_G} {k : Nat → ClassId} {L : n_L} {a : Nat → Nat} : (n_w D k L a).map Prod.fst = (List.range L.length).map a := by
  unfold n_w j_wl
  rw [List.map_map]
  rfl
def n_cl (L : n_L) : Bool := (List.range L.length).all fun i => if (n_g L i).1 < 11 then (List.range (j_nf (n_g L i).1)).all (fun j => match j_fo (n_g L i).1 j with
    | some o => decide (i + o < L.length)
    | none => true) else if (n_g L i).1 = 14 ∨ (n_g L i).1 = 15 then (List.range (n_g L i).2).all (fun j => decide (j_ro (n_g L i).1 i j < L.length)) else true
theorem arrV_congr {cA : ClassId} {n : Nat} {f g : Nat → Value} (h : ∀ j, j < n → f j = g j) : arrV cA n f = arrV cA n g := by
  have e : (fun j : Fin n => f j.val) = fun j : Fin n => g j.val := funext (fun j => h j.val j.isLt)
  unfold arrV
  rw [e]
theorem j_ro_add (kd b i j : Nat) : j_ro kd (b + i) j = b + j_ro kd i j := by
  unfold j_ro
  split <;> omega
/-- a cell of a segment stands in a longer one -/
theorem n_glue {D : va_G} {k : Nat → ClassId} {L Lk : n_L} {a ak : Nat → Nat} {H : Heap} {b : Nat} (hc : n_cl Lk = true) (hb : ∀ i, i < Lk.length → n_g L (b + i) = n_g Lk i) (ha : ∀ i, i < Lk.length → a (b + i) = ak i) {i : Nat} (hi : i < Lk.length) (h : va_at D vwCl (ak i, n_en D k Lk ak i) H) : va_at D vwCl (a (b + i), n_en D k L a (b + i)) H := by
  have hg := hb i hi
  have hci := List.all_eq_true.mp hc i (List.mem_range.mpr hi)
  rw [ha i hi]
  have hm : (n_m L).1 (b + i) = (n_m Lk).1 i := by
    funext j
    show n_dv (n_g L (b + i)) j = n_dv (n_g Lk i) j
    rw [hg]
  have l1 : n_en D k L a (b + i) = if (n_g Lk i).1 < 11 then .inr ((n_g Lk i).1, j_fs (n_G D k a) (n_m L) (b + i) (n_g Lk i).1) else .inl (k (n_g Lk i).1, j_ar (n_G D k a) (n_m L) (n_g Lk i).1 (b + i) (n_g Lk i).2) := by
    rw [← hg]; rfl
  have l2 : n_en D k Lk ak i = if (n_g Lk i).1 < 11 then .inr ((n_g Lk i).1, j_fs (n_G D k ak) (n_m Lk) i (n_g Lk i).1) else .inl (k (n_g Lk i).1, j_ar (n_G D k ak) (n_m Lk) (n_g Lk i).1 i (n_g Lk i).2) := rfl
  rw [l1]
  rw [l2] at h
  by_cases c1 : (n_g Lk i).1 < 11
  · rw [if_pos c1] at h hci ⊢
    have e : j_fs (n_G D k a) (n_m L) (b + i) (n_g Lk i).1 = j_fs (n_G D k ak) (n_m Lk) i (n_g Lk i).1 := by
      unfold j_fs
      refine List.map_congr_left (fun j hj => ?_)
      have hj2 := List.all_eq_true.mp hci j hj
      unfold j_fv
      cases ho : j_fo (n_g Lk i).1 j with
      | none => exact congrArg Value.int (congrFun hm j)
      | some o =>
        rw [ho] at hj2
        have hlt := of_decide_eq_true hj2
        show Value.ref (a (b + i + o)) = .ref (ak (i + o))
        rw [Nat.add_assoc, ha _ hlt]
    rw [e]
    exact h
  · rw [if_neg c1] at h hci ⊢
    have e : vp_cell (k (n_g Lk i).1) (j_ar (n_G D k a) (n_m L) (n_g Lk i).1 (b + i) (n_g Lk i).2) = vp_cell (k (n_g Lk i).1) (j_ar (n_G D k ak) (n_m Lk) (n_g Lk i).1 i (n_g Lk i).2) := by
      unfold j_ar
      by_cases c2 : (n_g Lk i).1 = 12
      · rw [if_pos c2, if_pos c2]; rfl
      · rw [if_neg c2, if_neg c2]
        by_cases c3 : (n_g Lk i).1 = 14 ∨ (n_g Lk i).1 = 15
        · rw [if_pos c3] at hci
          rw [if_pos c3, if_pos c3, vp_cell_q, vp_cell_q]
          refine arrV_congr (fun j hj => ?_)
          have hlt := of_decide_eq_true (List.all_eq_true.mp hci j (List.mem_range.mpr hj))
          show va_rf (some (a (j_ro (n_g Lk i).1 (b + i) j))) = va_rf (some (ak (j_ro (n_g Lk i).1 i j)))
          rw [j_ro_add, ha _ hlt]
        · rw [if_neg c3, if_neg c3, hm]
    have h' : H[ak i]? = some (vp_cell (k (n_g Lk i).1) (j_ar (n_G D k ak) (n_m Lk) (n_g Lk i).1 i (n_g Lk i).2)) := h
    show H[ak i]? = some (vp_cell (k (n_g Lk i).1) (j_ar (n_G D k a) (n_m L) (n_g Lk i).1 (b + i) (n_g Lk i).2))
    rw [e]; exact h'
def n_ap (n : Nat) (a1 a2 : Nat → Nat) : Nat → Nat := fun i => if i < n then a1 i else a2 (i - n)
theorem n_ap_l {n : Nat} {a1 a2 : Nat → Nat} {i : Nat} (h : i < n) : n_ap n a1 a2 i = a1 i := if_pos h
theorem n_ap_r {n : Nat} {a1 a2 : Nat → Nat} {i : Nat} : n_ap n a1 a2 (n + i) = a2 i := by
  unfold n_ap
  rw [if_neg (by omega), Nat.add_sub_cancel_left]
theorem n_g_l {L1 L2 : n_L} {i : Nat} (h : i < L1.length) : n_g (L1 ++ L2) i = n_g L1 i := by
  unfold n_g
  rw [List.getD_eq_getElem?_getD, List.getD_eq_getElem?_getD, List.getElem?_append_left h]
theorem n_g_r {L1 L2 : n_L} {n i : Nat} (hn : L1.length = n) : n_g (L1 ++ L2) (n + i) = n_g L2 i := by
  unfold n_g
  rw [List.getD_eq_getElem?_getD, List.getD_eq_getElem?_getD, List.getElem?_append_right (by omega), show n + i - L1.length = i by omega]
theorem n_P2 {D : va_G} {k : Nat → ClassId} {x : va_W} {L1 L2 : n_L} {a1 a2 : Nat → Nat} {H : Heap} {n : Nat} (hn : L1.length = n) (c1 : n_cl L1 = true) (c2 : n_cl L2 = true) (h : va_P D vwCl (x ++ (n_w D k L1 a1 ++ n_w D k L2 a2)) H) : va_P D vwCl (x ++ n_w D k (L1 ++ L2) (n_ap n a1 a2)) H := by
  have h1 : va_P D vwCl (n_w D k L1 a1) H := va_P_mem h (fun _ hx => List.mem_append_right _ (List.mem_append_left _ hx))
  have h2 : va_P D vwCl (n_w D k L2 a2) H := va_P_mem h (fun _ hx => List.mem_append_right _ (List.mem_append_right _ hx))
  refine va_P_app (va_P_mem h (fun _ hx => List.mem_append_left _ hx)) (n_w_iff.mpr (fun i hi => ?_))
  by_cases hl : i < L1.length
  · have q := n_glue (L := L1 ++ L2) (a := n_ap n a1 a2) (b := 0) c1 (fun i hi => by rw [Nat.zero_add]; exact n_g_l hi) (fun i hi => by rw [Nat.zero_add]; exact n_ap_l (hn ▸ hi)) hl (n_w_iff.mp h1 i hl)
    rw [Nat.zero_add] at q
    exact q
  · obtain ⟨j, rfl⟩ : ∃ j, i = n + j := ⟨i - n, by omega⟩
    have hj : j < L2.length := by
      rw [List.length_append] at hi
      omega
    exact n_glue (L := L1 ++ L2) (a := n_ap n a1 a2) (b := n) c2 (fun i hi => n_g_r hn) (fun i hi => n_ap_r) hj (n_w_iff.mp h2 j hj)
theorem va_D_fst {A : Nat → Prop} {ws ws' : va_W} (e : ws'.map Prod.fst = ws.map Prod.fst) (h : va_D A ws) : va_D A ws' := by
  obtain ⟨h1, h2⟩ := va_D_iff.mp h
  refine va_D_iff.mpr ⟨by rw [e]; exact h1, fun x hx => ?_⟩
  have hm : x.1 ∈ ws'.map Prod.fst := List.mem_map.mpr ⟨x, hx, rfl⟩
  rw [e] at hm
  obtain ⟨y, hy, hyx⟩ := List.mem_map.mp hm
  rw [← hyx]
  exact h2 y hy
theorem n_rng (n m : Nat) (f : Nat → Nat) : (List.range (n + m)).map f = (List.range n).map f ++ (List.range m).map (fun i => f (n + i)) := by
  rw [List.range_add, List.map_append, List.map_map]
  rfl
theorem n_ap_fst {n m : Nat} {a1 a2 : Nat → Nat} : (List.range (n + m)).map (n_ap n a1 a2) = (List.range n).map a1 ++ (List.range m).map a2 := by
  rw [n_rng]
  congr 1
  · exact List.map_congr_left (fun i hi => n_ap_l (List.mem_range.mp hi))
  · exact List.map_congr_left (fun i _ => n_ap_r)
theorem n_D2 {A : Nat → Prop} {D : va_G} {k : Nat → ClassId} {x : va_W} {L1 L2 : n_L} {a1 a2 : Nat → Nat} {n : Nat} (hn : L1.length = n) (h : va_D A (x ++ (n_w D k L1 a1 ++ n_w D k L2 a2))) : va_D A (x ++ n_w D k (L1 ++ L2) (n_ap n a1 a2)) := by
  refine va_D_fst ?_ h
  rw [List.map_append, List.map_append, List.map_append, n_w_fst, n_w_fst, n_w_fst, List.length_append, hn, n_ap_fst]
theorem va_D_R {A : Nat → Prop} {X Y : va_W} (h : va_D A (X ++ Y)) : va_D A Y := by
  obtain ⟨h1, h2⟩ := va_D_iff.mp h
  rw [List.map_append] at h1
  exact va_D_iff.mpr ⟨(List.nodup_append.mp h1).2.1, fun x hx => h2 x (List.mem_append_right _ hx)⟩
/-- the object itself, ahead of the rest -/
theorem n_P1 {D : va_G} {k : Nat → ClassId} {h0 c : Nat} {e : va_E} {L : n_L} {a1 : Nat → Nat} {H : Heap} (c2 : n_cl L = true) (h : va_P D vwCl ((h0, e) :: n_w D k L a1) H) (he : n_en D k ((c, 0) :: L) (n_ap 1 (fun _ => h0) a1) 0 = e) : va_P D vwCl (n_w D k ((c, 0) :: L) (n_ap 1 (fun _ => h0) a1)) H := by
  have h1 : va_P D vwCl (n_w D k L a1) H := va_P_mem h (fun _ hx => List.mem_cons_of_mem _ hx)
  refine n_w_iff.mpr (fun i hi => ?_)
  by_cases h9 : i = 0
  · subst h9
    rw [he]
    exact va_P_iff.mp h _ List.mem_cons_self
  · obtain ⟨j, rfl⟩ : ∃ j, i = 1 + j := ⟨i - 1, by omega⟩
    have hj : j < L.length := by
      rw [List.length_cons] at hi
      omega
    exact n_glue (L := (c, 0) :: L) (a := n_ap 1 (fun _ => h0) a1) (b := 1) c2 (fun i hi => n_g_r (L1 := [(c, 0)]) rfl) (fun i hi => n_ap_r) hj (n_w_iff.mp h1 j hj)
theorem n_D1 {A : Nat → Prop} {D : va_G} {k : Nat → ClassId} {h0 c : Nat} {e : va_E} {L : n_L} {a1 : Nat → Nat} (h : va_D A ((h0, e) :: n_w D k L a1)) : va_D A (n_w D k ((c, 0) :: L) (n_ap 1 (fun _ => h0) a1)) := by
  refine va_D_fst ?_ h
  rw [List.map_cons, n_w_fst, n_w_fst, List.length_cons, Nat.add_comm, n_ap_fst]
  rfl
theorem va_P_set {D : va_G} {cl : List vw_C} {ws : va_W} {i a : Nat} {e e' : va_E} {H : Heap} (hP : va_P D cl ws H) (hi : ws[i]? = some (a, e)) (he : va_at D cl (a, e) H → va_at D cl (a, e') H) : va_P D cl (ws.set i (a, e')) H := by
  refine va_P_iff.mpr (fun x hx => ?_)
  rcases List.mem_or_eq_of_mem_set hx with h | h
  · exact va_P_iff.mp hP x h
  · subst h
    exact he (hP i _ hi)
theorem va_RA_inj {U : State} {cA cB : ClassId} {ty : FieldType} (h1 : va_RA U cA ty) (h2 : va_RA U cB ty) : cA = cB := by
  cases ty with
  | object C =>
    obtain ⟨_, _, _, _, _, q1⟩ := h1
    obtain ⟨_, _, _, _, _, q2⟩ := h2
    exact Option.some.inj (q1.symm.trans q2)
  | _ => exact Option.some.inj ((show U.vm.findClass _ = some cA from h1).symm.trans (show U.vm.findClass _ = some cB from h2))
section newarrays
variable {p : Program} {l : Launch} {e : Env} {R : Room} {s : State} {m : MethodId} {args : Array Value} {below : List Frame} {meth : Method} {c : Code} {H : Heap} {locs : List Loc} {cells slots : Nat} {Q : State → Prop}
variable {cc : ByteArray} {pc : Nat} {ls : Array Slot} {rest : List Value} {A : Nat → Prop} {H0 : Heap} {D : va_G} {cl : List vw_C} {tys : List (ClassId × FieldType)} {ws : va_W}
theorem n_newa (hexec : p.tables.exec = Jvm.exec) (hb : c.code = cc) {atype : ArrayType} (harr : (Cond.arrayClass (newarray.typeOf atype)).before args s = true) {ty : FieldType} (hty : newarray.typeOf atype = ty) (hK : va_K D cl tys s) (hP : va_P D cl ws H) (hD : va_D A ws) (hS : va_S A H0 H locs) (hA : ∀ q, H0.size ≤ q → A q) (t0 : Nat) {cI : ClassId} (ht : tys[t0]? = some (cI, ty))
    {n : Int32} {N' : Nat} {a0 : vp_A} (ha : ∀ cA : ClassId, vp_cell cA a0 = arrV cA N' (fun _ => defaultValue ty)) (hn : ¬ n < 0) (hN : n.toNatClampNeg = N') (hbytes : N' * componentBytes ty ≤ 536870912) (hcells : cells + 1 ≤ R.cells) (hslots : slots + N' ≤ R.slots) (hdg : decode cc pc = .ok (.newarray atype, 2))
    (kk : ∀ (q : Nat) (H1 : Heap), va_P D cl (ws ++ [(q, .inl (cI, a0))]) H1 → va_D A (ws ++ [(q, .inl (cI, a0))]) → va_S A H0 H1 locs →
      W p l e R s m args below meth c H1 locs (cells + 1) (slots + N') Q (F0 m (pc + 2) ls (.ref q :: rest))) : W p l e R s m args below meth c H locs cells slots Q (F0 m pc ls (.int n :: rest)) := by
  refine va_newa hexec hb harr hty hK hP hD hS hA ha hn hN hbytes hcells hslots hdg (fun q cA H1 hK' hP hD hS => ?_)
  have e : cA = cI := va_RA_inj (hK'.2 tys.length (cA, ty) (by simp)).2 (hK.2 t0 _ ht).2
  subst e
  exact kk q H1 hP hD hS
theorem n_newq (hexec : p.tables.exec = Jvm.exec) (hb : c.code = cc) {own C : String} {index : Nat} (hown : s.vm.findClass own = some m.cls) (hclink : (Cond.classLink own index C).before args s = true) (hover : va_AO C s) (hK : va_K D cl tys s) (hP : va_P D cl ws H) (hD : va_D A ws) (hS : va_S A H0 H locs) (hA : ∀ q, H0.size ≤ q → A q) (t0 : Nat) {cI : ClassId} (ht : tys[t0]? = some (cI, .object C))
    {n : Int32} {N' : Nat} (hn : ¬ n < 0) (hN : n.toNatClampNeg = N') (hbytes : N' * 4 ≤ 536870912) (hcells : cells + 1 ≤ R.cells) (hslots : slots + N' ≤ R.slots) (hdg : decode cc pc = .ok (.anewarray index, 3))
    (kk : ∀ (q : Nat) (H1 : Heap), va_P D cl (ws ++ [(q, .inl (cI, N', .inr (.inr (.inr (.inr (fun _ => none))))))]) H1 → va_D A (ws ++ [(q, .inl (cI, N', .inr (.inr (.inr (.inr (fun _ => none))))))]) → va_S A H0 H1 locs →
      W p l e R s m args below meth c H1 locs (cells + 1) (slots + N') Q (F0 m (pc + 3) ls (.ref q :: rest))) : W p l e R s m args below meth c H locs cells slots Q (F0 m pc ls (.int n :: rest)) := by
  refine va_newq hexec hb hown hclink hover hK hP hD hS hA hn hN hbytes hcells hslots hdg (fun q cA H1 hK' hP hD hS => ?_)
  have e : cA = cI := va_RA_inj (hK'.2 tys.length (cA, .object C) (by simp)).2 (hK.2 t0 _ ht).2
  subst e
  exact kk q H1 hP hD hS
end newarrays
/-- a constructor's contract: the new object h0 with its fields' defaults becomes the segment L -/
abbrev n_Pre (D : va_G) (k : Nat → ClassId) (h0 sz : Nat) (e : va_E) : Array Value → State → Prop := va_Pc [.ref h0] (fun U => U.heap.size = sz ∧ va_P D vwCl [(h0, e)] U.heap ∧ n_K D k U ∧ va_D (fun _ => True) [(h0, e)])
abbrev n_Post (D : va_G) (k : Nat → ClassId) (h0 sz : Nat) (e : va_E) (L : n_L) : Array Value → State → Outcome → State → Prop := va_Qv (fun _ : Unit => True) (fun _ t => ∃ a : Nat → Nat, a 0 = h0 ∧ va_P D vwCl (n_w D k L a) t.heap ∧ va_D (va_A [(h0, e)] sz) (n_w D k L a)) (va_A [(h0, e)] sz)
theorem n_blind {D : va_G} {k : Nat → ClassId} {h0 sz : Nat} {e : va_E} : FrameBlind (n_Pre D k h0 sz e) := fun a U g mk q => by
  obtain ⟨q0, q1, qP, qK, qD⟩ := q
  exact ⟨q0, q1, qP, qK.call, qD⟩
theorem n_pre {D : va_G} {k : Nat → ClassId} {h0 : Nat} {e : va_E} {s : State} {H : Heap} {A : Nat → Prop} {X : va_W} (hK : n_K D k s) (hP : va_P D vwCl (X ++ [(h0, e)]) H) (hD : va_D A (X ++ [(h0, e)])) : ∀ U : State, U.heap = H → s.WarmedH U.vm → n_Pre D k h0 H.size e [Value.ref h0].toArray U := fun U hU hW => ⟨rfl, by rw [hU], by rw [hU]; exact va_P_mem hP (fun x hx => List.mem_append_right _ hx), hK.warm hW, (va_D_R hD).weaken (fun _ _ _ _ => trivial)⟩
