/-! Arrays.fill at world level, and the scene -/
section filling
variable {p : Program} {l : Launch} {e : Env} {R : Room} {s : State} {m : MethodId} {args : Array Value} {below : List Frame} {meth : Method} {c : Code} {Q : State → Prop} {D : va_G} {A : Nat → Prop} {H0 : Heap}
theorem n_fill_loop {cI : ClassId} {n h0 : Nat} {v : Int32} (hx : p.tables.exec = Jvm.exec) (hb : c.code = cJ7_fill_53178) (hK : va_K D vwCl [(cI, .int)] s) (hn : n < 2 ^ 31)
    (kk : ∀ (g : Nat → Int32) (H : Heap) (locs : List Loc) (ls : Array Slot), (∀ j, j < n → g j = v) → va_P D vwCl [(h0, .inl (cI, n, .inl g))] H → va_D A [(h0, .inl (cI, n, .inl g))] → va_S A H0 H locs → W p l e R s m args below meth c H locs 0 0 Q (F0 m 20 ls [])) :
    ∀ (r i : Nat) (g : Nat → Int32) (H : Heap) (locs : List Loc) (ls : Array Slot), i + r = n → (∀ j, j < i → g j = v) → va_P D vwCl [(h0, .inl (cI, n, .inl g))] H → va_D A [(h0, .inl (cI, n, .inl g))] → va_S A H0 H locs → lv_has ls 4 [(3, .int (nI n)), (2, .int (nI i)), (0, .ref h0), (1, .int v)] → W p l e R s m args below meth c H locs 0 0 Q (F0 m 5 ls []) := by
  intro r
  induction r with
  | zero =>
    intro i g H locs ls hi hg hP hD hS hl
    refine lv_iload_n hx hb dJ7_fill_53178_5 rfl (lv_at hl 1 rfl) ?_
    refine lv_iload_n hx hb dJ7_fill_53178_6 rfl (lv_at hl 0 rfl) ?_
    refine lv_icmp_ge (tgt := 20) hx hb dJ7_fill_53178_7 (by decide) (fun _ => ?_) (fun h7 => ?_)
    · exact kk g H locs ls (fun j hj => hg j (by omega)) hP hD hS
    · rw [nI_leI (by omega) (by omega)] at h7
      omega
  | succ r ih =>
    intro i g H locs ls hi hg hP hD hS hl
    refine lv_iload_n hx hb dJ7_fill_53178_5 rfl (lv_at hl 1 rfl) ?_
    refine lv_iload_n hx hb dJ7_fill_53178_6 rfl (lv_at hl 0 rfl) ?_
    refine lv_icmp_ge (tgt := 20) hx hb dJ7_fill_53178_7 (by decide) (fun h7 => ?_) (fun _ => ?_)
    · rw [nI_leI (by omega) (by omega)] at h7
      omega
    · refine lv_aload_n hx hb dJ7_fill_53178_10 rfl (lv_at hl 2 rfl) ?_
      refine lv_iload_n hx hb dJ7_fill_53178_11 rfl (lv_at hl 1 rfl) ?_
      refine lv_iload_n hx hb dJ7_fill_53178_12 rfl (lv_at hl 3 rfl) ?_
      refine va_iast hx hb hK hP hD hS 0 0 rfl rfl (vp_in_nI (show i < n by omega) hn) dJ7_fill_53178_13 (fun H locs hP hD hS => ?_)
      have hP : va_P D vwCl [(h0, .inl (cI, n, .inl (upd g (nI i).toNatClampNeg v)))] H := hP
      have hD : va_D A [(h0, .inl (cI, n, .inl (upd g (nI i).toNatClampNeg v)))] := hD
      refine lv_iinc (v := nI (i + 1)) (lv' := [(2, .int (nI (i + 1))), (3, .int (nI n)), (0, .ref h0), (1, .int v)]) hx hb dJ7_fill_53178_14 hl (k := 1) rfl (j_inc i) (by decide) rfl (fun ls hl => ?_)
      refine lv_goto (tgt := 5) hx hb dJ7_fill_53178_17 (by decide) ?_
      refine ih (i + 1) _ H locs ls (by omega) (fun j hj => ?_) hP hD hS (lv_sub hl [1, 0, 2, 3] rfl)
      rw [nI_clamp (by omega)]
      unfold upd
      by_cases h9 : j = i
      · rw [if_pos h9]
      · rw [if_neg h9]
        exact hg j (by omega)
end filling
theorem vp_cell_congrI {cA : ClassId} {n : Nat} {f g : Nat → Int32} (h : ∀ j, j < n → f j = g j) : vp_cell cA (n, .inl f) = vp_cell cA (n, .inl g) := arrV_congr (fun j hj => congrArg Value.int (h j hj))
theorem n_J7_fill (l : Launch) (D : va_G) (cI : ClassId) (n : Nat) (hn : n < 2 ^ 31) (f : Nat → Int32) (v : Int32) (h0 sz : Nat) : Met l yJ7_fill_53178 (Cond.code yJ7_fill_53178 cJ7_fill_53178 4 none :: j_gw) (n_rm 0 0 0) (va_Pc [.ref h0, .int v] (fun U => U.heap.size = sz ∧ va_P D vwCl [(h0, .inl (cI, n, .inl f))] U.heap ∧ va_K D vwCl [(cI, .int)] U ∧ va_D (fun _ => True) [(h0, .inl (cI, n, .inl f))])) (va_Qv (fun _ : Unit => True) (fun _ t => va_P D vwCl [(h0, .inl (cI, n, .inl (fun _ => v)))] t.heap ∧ va_D (va_A [(h0, .inl (cI, n, .inl f))] sz) [(h0, .inl (cI, n, .inl (fun _ => v)))]) (va_A [(h0, .inl (cI, n, .inl f))] sz)) 0 0 (va_A [(h0, .inl (cI, n, .inl f))] sz) := by
  refine Met.ofW (cc := cJ7_fill_53178) (maxL := 4) (ret := none) (by decide) rfl ?_
  intro p e s m args below meth c s₁ B hml hv
  obtain ⟨rfl, hsz, hP, hK, hD0⟩ := hv
  have hx := B.exec
  have hb := B.bytes
  have hr := B.returns
  have hlocks := B.notSynchronized
  subst hsz
  have hD := hD0.self (sz := s.heap.size)
  generalize hAe : va_A [(h0, .inl (cI, n, .inl f))] s.heap.size = A at hD ⊢
  have hS : va_S A s.heap s.heap [] := va_S.rf
  have hl := lv_entry ([.ref h0, .int v]) (n := 4) (Nat.le_of_ble_eq_true rfl)
  rw [lg_entry_eq]
  generalize (lg_sl ([.ref h0, .int v]) ++ List.replicate (4 - (lg_sl ([.ref h0, .int v])).length) Slot.unset).toArray = ls at hl ⊢
  have hl : lv_has ls 4 [(0, .ref h0), (1, .int v)] := hl
  refine lv_iconst (v := nI 0) hx hb dJ7_fill_53178_0 (by decide) ?_
  refine lv_istore_n (lv' := [(2, .int (nI 0)), (0, .ref h0), (1, .int v)]) hx hb dJ7_fill_53178_1 rfl hl (by decide) rfl (fun ls hl => ?_)
  refine lv_aload_n hx hb dJ7_fill_53178_2 rfl (lv_at hl 1 rfl) ?_
  refine va_alen hx hb hK hP 0 0 rfl rfl rfl dJ7_fill_53178_3 ?_
  refine lv_istore_n (lv' := [(3, .int (nI n)), (2, .int (nI 0)), (0, .ref h0), (1, .int v)]) hx hb dJ7_fill_53178_4 rfl hl (by decide) rfl (fun ls hl => ?_)
  refine n_fill_loop hx hb hK hn (fun g H locs ls hg hP hD hS => ?_) n 0 f _ _ ls (by omega) (fun j hj => absurd hj (Nat.not_lt_zero _)) hP hD hS hl
  have hP2 := va_P_set (i := 0) (e' := .inl (cI, n, .inl (fun _ => v))) hP rfl (fun h => by
    have h' : H[h0]? = some (vp_cell cI (n, .inl g)) := h
    show H[h0]? = some (vp_cell cI (n, .inl (fun _ => v)))
    rw [← vp_cell_congrI (f := g) (g := fun _ => v) hg]
    exact h')
  have hD2 : va_D A [(h0, .inl (cI, n, .inl (fun _ => v)))] := va_D_fst (ws := [(h0, .inl (cI, n, .inl g))]) rfl hD
  exact W.vret hx hb hr (fun t ht hW => ⟨⟨(), rfl, trivial, by rw [ht]; exact hP2, hD2⟩, hS.F ht⟩) hS.2.2 dJ7_fill_53178_20
theorem n_perm1 {x R1 R2 N : va_W} : (x ++ (N ++ (R1 ++ R2))).Perm (((x ++ R1) ++ R2) ++ N) := by
  rw [List.append_assoc, List.append_assoc]
  refine List.Perm.append_left x (List.perm_append_comm.trans ?_)
  rw [List.append_assoc]
theorem n_perm2 {x R1 R2 N : va_W} : ((x ++ R1) ++ (R2 ++ N)).Perm (x ++ (N ++ (R1 ++ R2))) := by
  rw [List.append_assoc]
  refine List.Perm.append_left x (List.Perm.symm ?_)
  refine List.perm_append_comm.trans ?_
  rw [List.append_assoc]

def n_lE : n_L := []
theorem n_lE_n : n_lE.length = 0 := by decide +kernel
theorem n_lE_c : n_cl n_lE = true := by decide +kernel

def n_l4 : n_L := j_sc
theorem n_l4_n : n_l4.length = 21 := by decide +kernel
theorem n_l4_c : n_cl n_l4 = true := by decide +kernel

def n_t1 : n_L := n_lE ++ n_l3
theorem n_t1_n : n_t1.length = 2 := by decide +kernel
theorem n_t1_c : n_cl n_t1 = true := by decide +kernel

def n_t2 : n_L := n_t1 ++ n_l3
theorem n_t2_n : n_t2.length = 4 := by decide +kernel
theorem n_t2_c : n_cl n_t2 = true := by decide +kernel

def n_t3 : n_L := n_t2 ++ n_l3
theorem n_t3_n : n_t3.length = 6 := by decide +kernel
theorem n_t3_c : n_cl n_t3 = true := by decide +kernel

def n_t4 : n_L := n_t3 ++ n_l3
theorem n_t4_n : n_t4.length = 8 := by decide +kernel
theorem n_t4_c : n_cl n_t4 = true := by decide +kernel

def n_t5 : n_L := n_t4 ++ n_l3
theorem n_t5_n : n_t5.length = 10 := by decide +kernel
theorem n_t5_c : n_cl n_t5 = true := by decide +kernel

def n_t6 : n_L := n_t5 ++ n_l3
theorem n_t6_n : n_t6.length = 12 := by decide +kernel
theorem n_t6_c : n_cl n_t6 = true := by decide +kernel

def n_t7 : n_L := n_t6 ++ n_l3
theorem n_t7_n : n_t7.length = 14 := by decide +kernel
theorem n_t7_c : n_cl n_t7 = true := by decide +kernel

def n_t8 : n_L := n_t7 ++ n_l3
theorem n_t8_n : n_t8.length = 16 := by decide +kernel
theorem n_t8_c : n_cl n_t8 = true := by decide +kernel

theorem n_finD4 {A : Nat → Prop} {D : va_G} {k : Nat → ClassId} {h0 q1 q2 q3 q4 : Nat} {as : Nat → Nat} (hD : va_D A (([(h0, .inr (4, [.ref q1, .ref q2, .ref q3, .ref q4, .int 0, .int 0, .int 0, .int 1])), (q1, .inl (k 11, ((12 : Nat), .inl (fun _ => (-1 : Int32))))), (q2, .inl (k 11, ((8 : Nat), .inl (fun _ => (0 : Int32))))), (q3, .inl (k 14, ((8 : Nat), .inr (.inr (.inr (.inr ((va_up (va_up (va_up (va_up (va_up (va_up (va_up (va_up (fun _ => none) 0 (some (as 0))) 1 (some (as 2))) 2 (some (as 4))) 3 (some (as 6))) 4 (some (as 8))) 5 (some (as 10))) 6 (some (as 12))) 7 (some (as 14)))))))))), (q4, .inl (k 11, ((8 : Nat), .inl (fun _ => (0 : Int32)))))] ++ []) ++ n_w D k n_t8 as)) : va_D A (n_w D k n_l4 (n_ap 5 (fun i => ([h0, q1, q2, q3, q4] : List Nat).getD i 0) as)) := by
  refine va_D_fst ?_ hD
  rw [n_w_fst, List.map_append, n_w_fst, n_l4_n, n_t8_n, show (21 : Nat) = 5 + 16 from rfl, n_ap_fst]
  rfl
theorem n_up8 {f : Nat → Option Nat} (a : Nat → Nat) {g : Nat → Option Nat} (hf : f = (va_up (va_up (va_up (va_up (va_up (va_up (va_up (va_up (fun _ => none) 0 (some (a 0))) 1 (some (a 2))) 2 (some (a 4))) 3 (some (a 6))) 4 (some (a 8))) 5 (some (a 10))) 6 (some (a 12))) 7 (some (a 14)))) (hg : ∀ i, i < 8 → g i = some (a (2 * i))) : ∀ j, j < 8 → f j = g j := by
  subst hf
  intro j hj
  rw [hg j hj]
  rcases (show j = 0 ∨ j = 1 ∨ j = 2 ∨ j = 3 ∨ j = 4 ∨ j = 5 ∨ j = 6 ∨ j = 7 by omega) with rfl | rfl | rfl | rfl | rfl | rfl | rfl | rfl <;> rfl
set_option maxRecDepth 100000 in
theorem n_fin4 {D : va_G} {k : Nat → ClassId} {h0 q1 q2 q3 q4 : Nat} {as : Nat → Nat} {H : Heap} (hP : va_P D vwCl (([(h0, .inr (4, [.ref q1, .ref q2, .ref q3, .ref q4, .int 0, .int 0, .int 0, .int 1])), (q1, .inl (k 11, ((12 : Nat), .inl (fun _ => (-1 : Int32))))), (q2, .inl (k 11, ((8 : Nat), .inl (fun _ => (0 : Int32))))), (q3, .inl (k 14, ((8 : Nat), .inr (.inr (.inr (.inr ((va_up (va_up (va_up (va_up (va_up (va_up (va_up (va_up (fun _ => none) 0 (some (as 0))) 1 (some (as 2))) 2 (some (as 4))) 3 (some (as 6))) 4 (some (as 8))) 5 (some (as 10))) 6 (some (as 12))) 7 (some (as 14)))))))))), (q4, .inl (k 11, ((8 : Nat), .inl (fun _ => (0 : Int32)))))] ++ []) ++ n_w D k n_t8 as) H) : va_P D vwCl (n_w D k n_l4 (n_ap 5 (fun i => ([h0, q1, q2, q3, q4] : List Nat).getD i 0) as)) H := by
  have h2 : va_P D vwCl (n_w D k n_t8 as) H := va_P_mem hP (fun _ hx => List.mem_append_right _ hx)
  refine n_w_iff.mpr (fun i hi => ?_)
  rw [n_l4_n] at hi
  by_cases h5 : 5 ≤ i
  · obtain ⟨j, rfl⟩ : ∃ j, i = 5 + j := ⟨i - 5, by omega⟩
    exact n_glue (L := n_l4) (Lk := n_t8) (b := 5) n_t8_c (fun i hi => n_g_r (L1 := [(4, 0), (11, 12), (11, 8), (14, 8), (11, 8)]) (L2 := n_t8) rfl) (fun i hi => n_ap_r) (by rw [n_t8_n]; omega) (n_w_iff.mp h2 j (by rw [n_t8_n]; omega))
  · rcases (show i = 0 ∨ i = 1 ∨ i = 2 ∨ i = 3 ∨ i = 4 by omega) with rfl | rfl | rfl | rfl | rfl
    · exact hP 0 _ rfl
    · exact hP 1 _ rfl
    · exact hP 2 _ rfl
    · have h3 : H[q3]? = some (vp_cell (k 14) ((8 : Nat), .inr (.inr (.inr (.inr ((va_up (va_up (va_up (va_up (va_up (va_up (va_up (va_up (fun _ => none) 0 (some (as 0))) 1 (some (as 2))) 2 (some (as 4))) 3 (some (as 6))) 4 (some (as 8))) 5 (some (as 10))) 6 (some (as 12))) 7 (some (as 14))))))))) := hP 3 _ rfl
      show H[q3]? = some (vp_cell (k 14) ((8 : Nat), .inr (.inr (.inr (.inr (fun j => some ((n_ap 5 (fun i => ([h0, q1, q2, q3, q4] : List Nat).getD i 0) as) (j_ro 14 3 j))))))))
      rw [vp_cell_q] at h3 ⊢
      rw [h3]
      refine congrArg some (arrV_congr (fun j hj => congrArg va_rf (n_up8 as (g := fun j => some ((n_ap 5 (fun i => ([h0, q1, q2, q3, q4] : List Nat).getD i 0) as) (j_ro 14 3 j))) rfl (fun i hi => ?_) j hj)))
      show some ((n_ap 5 (fun i => ([h0, q1, q2, q3, q4] : List Nat).getD i 0) as) (3 + 2 + 2 * i)) = _
      rw [show 3 + 2 + 2 * i = 5 + 2 * i by omega, n_ap_r]
    · exact hP 4 _ rfl

set_option maxRecDepth 100000 in
set_option maxHeartbeats 4000000 in
theorem n_X4_init (l : Launch) (D : va_G) (k : Nat → ClassId) (h0 sz : Nat) : Met l yX4_init (Cond.code yX4_init cX4_init 2 none :: j_gw) (n_rm 2 20 156) (n_Pre D k h0 sz (.inr (4, [.null, .null, .null, .null, .int 0, .int 0, .int 0, .int 0]))) (n_Post D k h0 sz (.inr (4, [.null, .null, .null, .null, .int 0, .int 0, .int 0, .int 0])) n_l4) 20 156 (va_A [(h0, .inr (4, [.null, .null, .null, .null, .int 0, .int 0, .int 0, .int 0]))] sz) := by
  refine Met.ofW (cc := cX4_init) (maxL := 2) (ret := none) (by decide) rfl ?_
  intro p e s m args below meth c s₁ B hml hv
  obtain ⟨rfl, hsz, hP, hK, hD0⟩ := hv
  have hx := B.exec
  have hb := B.bytes
  have hr := B.returns
  have hts0 := atoms_spec (ws := Cond.code yX4_init cX4_init 2 none :: j_gw) B.pre
  have hts : ∀ w ∈ j_gw, w.before _ s = true := fun w hw => hts0 w (List.mem_cons_of_mem _ hw)
  have hown : s.vm.findClass RX4 = some m.cls := findClass_of_methodNamed B.named
  have hlocks := B.notSynchronized
  have hin : meth.name = "<init>" := (name_of_methodNamed B.named B.method).1
  subst hsz
  have hD := hD0.self (sz := s.heap.size)
  unfold n_Post
  generalize hAe : va_A [(h0, .inr (4, [.null, .null, .null, .null, .int 0, .int 0, .int 0, .int 0]))] s.heap.size = A at hD ⊢
  have hA : ∀ q : Nat, s.heap.size ≤ q → A q := fun q h => by rw [← hAe]; exact Or.inr h
  have hS : va_S A s.heap s.heap [] := va_S.rf
  have hl := lv_entry ([.ref h0]) (n := 2) (Nat.le_of_ble_eq_true rfl)
  rw [lg_entry_eq]
  generalize (lg_sl ([.ref h0]) ++ List.replicate (2 - (lg_sl ([.ref h0])).length) Slot.unset).toArray = ls at hl ⊢
  have hl : lv_has ls 2 [(0, .ref h0)] := hl
  refine lv_aload_n hx hb dX4_init_0 rfl (lv_at hl 0 rfl) ?_
  refine W.objInit hx hb hown (hts _ mlX4_3) (hts _ im_oi) (hts _ cd_oi) rfl (by rw [hml]; exact hl.1) rfl dX4_init_1 (Nat.le_of_ble_eq_true rfl) (Nat.le_of_ble_eq_true rfl) ?_
  refine W.eq (g2 := F0 m 4 ls []) rfl ?_
  refine lv_aload_n hx hb dX4_init_4 rfl (lv_at hl 0 rfl) ?_
  refine lv_bipush (v := 12) hx hb dX4_init_5 (by decide) ?_
  refine n_newa (atype := .int) (a0 := ((12 : Nat), .inl (fun _ => (0 : Int32)))) (N' := 12) hx hb (hts _ ac_90) (ty := .int) rfl hK.1 hP hD hS hA 0 rfl (fun cA => rfl) (by decide) (by decide) (by decide) (Nat.le_of_ble_eq_true rfl) (Nat.le_of_ble_eq_true rfl) dX4_init_7 (fun q1 H hP hD hS => ?_)
  refine W.widen (k := 1) (n := 12) (by omega) (by omega) ?_
  have hP : va_P D vwCl ([(h0, .inr (4, [.null, .null, .null, .null, .int 0, .int 0, .int 0, .int 0])), (q1, .inl (k 11, ((12 : Nat), .inl (fun _ => (0 : Int32)))))]) H := hP
  have hD : va_D A ([(h0, .inr (4, [.null, .null, .null, .null, .int 0, .int 0, .int 0, .int 0])), (q1, .inl (k 11, ((12 : Nat), .inl (fun _ => (0 : Int32)))))]) := hD
  refine va_putF (D := D) (ci := 4) (v := .ref q1) (ty := tyX4 0) (C := RX4) (T := TX4) (N := 8) hx hb hts uw4 tyX4 tyX4_ok nmX4 hown hK.1 hP hD hS 0 rfl rfl 0 (by decide) (hts _ flX4_9) (fun _ h9 => h9) rfl hin rfl (by decide +kernel) rfl rfl (Nat.le_of_ble_eq_true rfl) dX4_init_9 (fun H locs hP hD hS => ?_)
  have hP : va_P D vwCl ([(h0, .inr (4, [.ref q1, .null, .null, .null, .int 0, .int 0, .int 0, .int 0])), (q1, .inl (k 11, ((12 : Nat), .inl (fun _ => (0 : Int32)))))]) H := hP
  have hD : va_D A ([(h0, .inr (4, [.ref q1, .null, .null, .null, .int 0, .int 0, .int 0, .int 0])), (q1, .inl (k 11, ((12 : Nat), .inl (fun _ => (0 : Int32)))))]) := hD
  refine lv_aload_n hx hb dX4_init_12 rfl (lv_at hl 0 rfl) ?_
  refine lv_bipush (v := 8) hx hb dX4_init_13 (by decide) ?_
  refine n_newa (atype := .int) (a0 := ((8 : Nat), .inl (fun _ => (0 : Int32)))) (N' := 8) hx hb (hts _ ac_90) (ty := .int) rfl hK.1 hP hD hS hA 0 rfl (fun cA => rfl) (by decide) (by decide) (by decide) (Nat.le_of_ble_eq_true rfl) (Nat.le_of_ble_eq_true rfl) dX4_init_15 (fun q2 H hP hD hS => ?_)
  refine W.widen (k := 2) (n := 20) (by omega) (by omega) ?_
  have hP : va_P D vwCl ([(h0, .inr (4, [.ref q1, .null, .null, .null, .int 0, .int 0, .int 0, .int 0])), (q1, .inl (k 11, ((12 : Nat), .inl (fun _ => (0 : Int32))))), (q2, .inl (k 11, ((8 : Nat), .inl (fun _ => (0 : Int32)))))]) H := hP
  have hD : va_D A ([(h0, .inr (4, [.ref q1, .null, .null, .null, .int 0, .int 0, .int 0, .int 0])), (q1, .inl (k 11, ((12 : Nat), .inl (fun _ => (0 : Int32))))), (q2, .inl (k 11, ((8 : Nat), .inl (fun _ => (0 : Int32)))))]) := hD
  refine va_putF (D := D) (ci := 4) (v := .ref q2) (ty := tyX4 1) (C := RX4) (T := TX4) (N := 8) hx hb hts uw4 tyX4 tyX4_ok nmX4 hown hK.1 hP hD hS 0 rfl rfl 1 (by decide) (hts _ flX4_15) (fun _ h9 => h9) rfl hin rfl (by decide +kernel) rfl rfl (Nat.le_of_ble_eq_true rfl) dX4_init_17 (fun H locs hP hD hS => ?_)
  have hP : va_P D vwCl ([(h0, .inr (4, [.ref q1, .ref q2, .null, .null, .int 0, .int 0, .int 0, .int 0])), (q1, .inl (k 11, ((12 : Nat), .inl (fun _ => (0 : Int32))))), (q2, .inl (k 11, ((8 : Nat), .inl (fun _ => (0 : Int32)))))]) H := hP
  have hD : va_D A ([(h0, .inr (4, [.ref q1, .ref q2, .null, .null, .int 0, .int 0, .int 0, .int 0])), (q1, .inl (k 11, ((12 : Nat), .inl (fun _ => (0 : Int32))))), (q2, .inl (k 11, ((8 : Nat), .inl (fun _ => (0 : Int32)))))]) := hD
  refine lv_aload_n hx hb dX4_init_20 rfl (lv_at hl 0 rfl) ?_
  refine lv_bipush (v := 8) hx hb dX4_init_21 (by decide) ?_
  refine n_newq (C := RX3) (N' := 8) hx hb hown (hts _ clX4_18) hK.2.2.1 hK.1 hP hD hS hA 3 rfl (by decide) (by decide) (by decide) (Nat.le_of_ble_eq_true rfl) (Nat.le_of_ble_eq_true rfl) dX4_init_23 (fun q3 H hP hD hS => ?_)
  refine W.widen (k := 3) (n := 28) (by omega) (by omega) ?_
  have hP : va_P D vwCl ([(h0, .inr (4, [.ref q1, .ref q2, .null, .null, .int 0, .int 0, .int 0, .int 0])), (q1, .inl (k 11, ((12 : Nat), .inl (fun _ => (0 : Int32))))), (q2, .inl (k 11, ((8 : Nat), .inl (fun _ => (0 : Int32))))), (q3, .inl (k 14, ((8 : Nat), .inr (.inr (.inr (.inr (fun _ => none)))))))]) H := hP
  have hD : va_D A ([(h0, .inr (4, [.ref q1, .ref q2, .null, .null, .int 0, .int 0, .int 0, .int 0])), (q1, .inl (k 11, ((12 : Nat), .inl (fun _ => (0 : Int32))))), (q2, .inl (k 11, ((8 : Nat), .inl (fun _ => (0 : Int32))))), (q3, .inl (k 14, ((8 : Nat), .inr (.inr (.inr (.inr (fun _ => none)))))))]) := hD
  refine va_putF (D := D) (ci := 4) (v := .ref q3) (ty := tyX4 2) (C := RX4) (T := TX4) (N := 8) hx hb hts uw4 tyX4 tyX4_ok nmX4 hown hK.1 hP hD hS 0 rfl rfl 2 (by decide) (hts _ flX4_20) (fun _ h9 => h9) rfl hin rfl (by decide +kernel) rfl rfl (Nat.le_of_ble_eq_true rfl) dX4_init_26 (fun H locs hP hD hS => ?_)
  have hP : va_P D vwCl ([(h0, .inr (4, [.ref q1, .ref q2, .ref q3, .null, .int 0, .int 0, .int 0, .int 0])), (q1, .inl (k 11, ((12 : Nat), .inl (fun _ => (0 : Int32))))), (q2, .inl (k 11, ((8 : Nat), .inl (fun _ => (0 : Int32))))), (q3, .inl (k 14, ((8 : Nat), .inr (.inr (.inr (.inr (fun _ => none)))))))]) H := hP
  have hD : va_D A ([(h0, .inr (4, [.ref q1, .ref q2, .ref q3, .null, .int 0, .int 0, .int 0, .int 0])), (q1, .inl (k 11, ((12 : Nat), .inl (fun _ => (0 : Int32))))), (q2, .inl (k 11, ((8 : Nat), .inl (fun _ => (0 : Int32))))), (q3, .inl (k 14, ((8 : Nat), .inr (.inr (.inr (.inr (fun _ => none)))))))]) := hD
  refine lv_aload_n hx hb dX4_init_29 rfl (lv_at hl 0 rfl) ?_
  refine lv_bipush (v := 8) hx hb dX4_init_30 (by decide) ?_
  refine n_newa (atype := .int) (a0 := ((8 : Nat), .inl (fun _ => (0 : Int32)))) (N' := 8) hx hb (hts _ ac_90) (ty := .int) rfl hK.1 hP hD hS hA 0 rfl (fun cA => rfl) (by decide) (by decide) (by decide) (Nat.le_of_ble_eq_true rfl) (Nat.le_of_ble_eq_true rfl) dX4_init_32 (fun q4 H hP hD hS => ?_)
  refine W.widen (k := 4) (n := 36) (by omega) (by omega) ?_
  have hP : va_P D vwCl ([(h0, .inr (4, [.ref q1, .ref q2, .ref q3, .null, .int 0, .int 0, .int 0, .int 0])), (q1, .inl (k 11, ((12 : Nat), .inl (fun _ => (0 : Int32))))), (q2, .inl (k 11, ((8 : Nat), .inl (fun _ => (0 : Int32))))), (q3, .inl (k 14, ((8 : Nat), .inr (.inr (.inr (.inr (fun _ => none))))))), (q4, .inl (k 11, ((8 : Nat), .inl (fun _ => (0 : Int32)))))]) H := hP
  have hD : va_D A ([(h0, .inr (4, [.ref q1, .ref q2, .ref q3, .null, .int 0, .int 0, .int 0, .int 0])), (q1, .inl (k 11, ((12 : Nat), .inl (fun _ => (0 : Int32))))), (q2, .inl (k 11, ((8 : Nat), .inl (fun _ => (0 : Int32))))), (q3, .inl (k 14, ((8 : Nat), .inr (.inr (.inr (.inr (fun _ => none))))))), (q4, .inl (k 11, ((8 : Nat), .inl (fun _ => (0 : Int32)))))]) := hD
  refine va_putF (D := D) (ci := 4) (v := .ref q4) (ty := tyX4 3) (C := RX4) (T := TX4) (N := 8) hx hb hts uw4 tyX4 tyX4_ok nmX4 hown hK.1 hP hD hS 0 rfl rfl 3 (by decide) (hts _ flX4_24) (fun _ h9 => h9) rfl hin rfl (by decide +kernel) rfl rfl (Nat.le_of_ble_eq_true rfl) dX4_init_34 (fun H locs hP hD hS => ?_)
  have hP : va_P D vwCl ([(h0, .inr (4, [.ref q1, .ref q2, .ref q3, .ref q4, .int 0, .int 0, .int 0, .int 0])), (q1, .inl (k 11, ((12 : Nat), .inl (fun _ => (0 : Int32))))), (q2, .inl (k 11, ((8 : Nat), .inl (fun _ => (0 : Int32))))), (q3, .inl (k 14, ((8 : Nat), .inr (.inr (.inr (.inr (fun _ => none))))))), (q4, .inl (k 11, ((8 : Nat), .inl (fun _ => (0 : Int32)))))]) H := hP
  have hD : va_D A ([(h0, .inr (4, [.ref q1, .ref q2, .ref q3, .ref q4, .int 0, .int 0, .int 0, .int 0])), (q1, .inl (k 11, ((12 : Nat), .inl (fun _ => (0 : Int32))))), (q2, .inl (k 11, ((8 : Nat), .inl (fun _ => (0 : Int32))))), (q3, .inl (k 14, ((8 : Nat), .inr (.inr (.inr (.inr (fun _ => none))))))), (q4, .inl (k 11, ((8 : Nat), .inl (fun _ => (0 : Int32)))))]) := hD
  refine lv_aload_n hx hb dX4_init_37 rfl (lv_at hl 0 rfl) ?_
  refine lv_iconst (v := 1) hx hb dX4_init_38 (by decide) ?_
  refine va_put (D := D) (ci := 4) (v := .int 1) (ty := tyX4 7) (C := RX4) (T := TX4) (N := 8) hx hb hts uw4 tyX4 tyX4_ok nmX4 hown hK.1 hP hD hS 0 rfl rfl 7 (by decide) (hts _ flX4_27) (fun _ h9 => h9) rfl (by decide +kernel) rfl rfl (Nat.le_of_ble_eq_true rfl) dX4_init_39 (fun H locs hP hD hS => ?_)
  have hP : va_P D vwCl ([(h0, .inr (4, [.ref q1, .ref q2, .ref q3, .ref q4, .int 0, .int 0, .int 0, .int 1])), (q1, .inl (k 11, ((12 : Nat), .inl (fun _ => (0 : Int32))))), (q2, .inl (k 11, ((8 : Nat), .inl (fun _ => (0 : Int32))))), (q3, .inl (k 14, ((8 : Nat), .inr (.inr (.inr (.inr (fun _ => none))))))), (q4, .inl (k 11, ((8 : Nat), .inl (fun _ => (0 : Int32)))))]) H := hP
  have hD : va_D A ([(h0, .inr (4, [.ref q1, .ref q2, .ref q3, .ref q4, .int 0, .int 0, .int 0, .int 1])), (q1, .inl (k 11, ((12 : Nat), .inl (fun _ => (0 : Int32))))), (q2, .inl (k 11, ((8 : Nat), .inl (fun _ => (0 : Int32))))), (q3, .inl (k 14, ((8 : Nat), .inr (.inr (.inr (.inr (fun _ => none))))))), (q4, .inl (k 11, ((8 : Nat), .inl (fun _ => (0 : Int32)))))]) := hD
  refine lv_aload_n hx hb dX4_init_42 rfl (lv_at hl 0 rfl) ?_
  refine va_get (D := D) (ci := 4) (v := .ref q1) (C := RX4) (T := TX4) (N := 8) hx hb hts uw4 hown hK.1 hP 0 rfl rfl 0 (by decide) (hts _ flX4_9) (fun _ h9 => h9) rfl dX4_init_43 ?_
  refine lv_iconst (v := (-1)) hx hb dX4_init_46 (by decide) ?_
  have hPc := hP.sub (ws' := [(q1, .inl (k 11, ((12 : Nat), .inl (fun _ => (0 : Int32)))))]) [1] rfl
  have hDc := hD.sub (ws' := [(q1, .inl (k 11, ((12 : Nat), .inl (fun _ => (0 : Int32)))))]) [1] (by decide) rfl
  have hFc := va_free (wc := [(q1, .inl (k 11, ((12 : Nat), .inl (fun _ => (0 : Int32)))))]) hD hS hA [1] rfl
  obtain ⟨m1, m2, m3, m4, m5⟩ := mJ7_fill_53178
  refine va_callv (va_runS (As := [.ref q1, .int (-1)]) (rest := []) ⟨hx, hb, hml, hown, hts⟩ (n_J7_fill l D (k 11) 12 (by decide) (fun _ => 0) (-1) q1 H.size) ⟨callB_of (ws' := j_gw) 2 hts (j_goodS m1) rfl rfl rfl (hts _ m2) (hts _ mlX4_31) ⟨m3.1, m3.2, m4⟩ ⟨(Nat.le_of_ble_eq_true rfl), (Nat.le_of_ble_eq_true rfl)⟩, hts _ sm_J7_fill_53178⟩ ⟨fun a U g mk q => by obtain ⟨q0, q1, qP, qK, qD⟩ := q; exact ⟨q0, q1, qP, va_K.moved (u := U) (U := U.calling g mk a) (Vm.Alike.refl U.vm) qK, qD⟩, fun U hU hW => ⟨rfl, by rw [hU], by rw [hU]; exact hPc, va_K.moved hW.alike (hK.1.sub [0] rfl), hDc.weaken (fun _ _ _ _ => trivial)⟩⟩ rfl rfl hl.1 rfl (lv_room (Nat.le_of_ble_eq_true rfl)) dX4_init_47 ⟨(Nat.le_of_ble_eq_true rfl), (Nat.le_of_ble_eq_true rfl)⟩) hS (fun q _ h => hFc q h) hFc (fun u t H1 locs ht hvm h5 hB hz1 hk1 hS => ?_)
  obtain ⟨hP1, hD1⟩ := hB
  rw [ht] at hP1
  obtain ⟨hP, hD⟩ := va_join (wr := [(h0, .inr (4, [.ref q1, .ref q2, .ref q3, .ref q4, .int 0, .int 0, .int 0, .int 1])), (q2, .inl (k 11, ((8 : Nat), .inl (fun _ => (0 : Int32))))), (q3, .inl (k 14, ((8 : Nat), .inr (.inr (.inr (.inr (fun _ => none))))))), (q4, .inl (k 11, ((8 : Nat), .inl (fun _ => (0 : Int32)))))]) (w1 := [(q1, .inl (k 11, ((12 : Nat), .inl (fun _ => (-1 : Int32)))))]) hP hD [1] [0, 2, 3, 4] rfl rfl (by decide) (by decide) hk1 hFc hP1 hD1
  have hP := hP.sub (ws' := [(h0, .inr (4, [.ref q1, .ref q2, .ref q3, .ref q4, .int 0, .int 0, .int 0, .int 1])), (q1, .inl (k 11, ((12 : Nat), .inl (fun _ => (-1 : Int32))))), (q2, .inl (k 11, ((8 : Nat), .inl (fun _ => (0 : Int32))))), (q3, .inl (k 14, ((8 : Nat), .inr (.inr (.inr (.inr (fun _ => none))))))), (q4, .inl (k 11, ((8 : Nat), .inl (fun _ => (0 : Int32)))))]) [0, 4, 1, 2, 3] rfl
  have hD := hD.sub (ws' := [(h0, .inr (4, [.ref q1, .ref q2, .ref q3, .ref q4, .int 0, .int 0, .int 0, .int 1])), (q1, .inl (k 11, ((12 : Nat), .inl (fun _ => (-1 : Int32))))), (q2, .inl (k 11, ((8 : Nat), .inl (fun _ => (0 : Int32))))), (q3, .inl (k 14, ((8 : Nat), .inr (.inr (.inr (.inr (fun _ => none))))))), (q4, .inl (k 11, ((8 : Nat), .inl (fun _ => (0 : Int32)))))]) [0, 4, 1, 2, 3] (by decide) rfl
  generalize H1 = H at hP hS ⊢
  obtain ⟨as0, e0⟩ : ∃ z : Nat → Nat, z = fun _ => 0 := ⟨_, rfl⟩
  have hP : va_P D vwCl (([(h0, .inr (4, [.ref q1, .ref q2, .ref q3, .ref q4, .int 0, .int 0, .int 0, .int 1])), (q1, .inl (k 11, ((12 : Nat), .inl (fun _ => (-1 : Int32))))), (q2, .inl (k 11, ((8 : Nat), .inl (fun _ => (0 : Int32))))), (q3, .inl (k 14, ((8 : Nat), .inr (.inr (.inr (.inr ((fun _ => none)))))))), (q4, .inl (k 11, ((8 : Nat), .inl (fun _ => (0 : Int32)))))] ++ []) ++ n_w D k n_lE as0) H := va_P_mem hP (fun x hx => by simpa [n_w, j_wl, n_Λ, n_lE] using hx)
  have hD : va_D A (([(h0, .inr (4, [.ref q1, .ref q2, .ref q3, .ref q4, .int 0, .int 0, .int 0, .int 1])), (q1, .inl (k 11, ((12 : Nat), .inl (fun _ => (-1 : Int32))))), (q2, .inl (k 11, ((8 : Nat), .inl (fun _ => (0 : Int32))))), (q3, .inl (k 14, ((8 : Nat), .inr (.inr (.inr (.inr ((fun _ => none)))))))), (q4, .inl (k 11, ((8 : Nat), .inl (fun _ => (0 : Int32)))))] ++ []) ++ n_w D k n_lE as0) := va_D_fst (by simp [n_w, j_wl, n_Λ, n_lE]) hD
  refine lv_iconst (v := 0) hx hb dX4_init_50 (by decide) ?_
  refine lv_istore_n (lv' := [(1, .int 0), (0, .ref h0)]) hx hb dX4_init_51 rfl hl (by decide) rfl (fun ls hl => ?_)
  refine lv_iload_n hx hb dX4_init_52 rfl (lv_at hl 0 rfl) ?_
  refine lv_bipush (v := 8) hx hb dX4_init_53 (by decide) ?_
  refine lv_icmp_ge (tgt := 77) hx hb dX4_init_55 (by decide) (fun h7 => absurd h7 (by decide)) (fun _ => ?_)
  refine lv_aload_n hx hb dX4_init_58 rfl (lv_at hl 1 rfl) ?_
  refine va_get (D := D) (ci := 4) (v := .ref q3) (C := RX4) (T := TX4) (N := 8) hx hb hts uw4 hown hK.1 hP 0 rfl rfl 2 (by decide) (hts _ flX4_20) (fun _ h9 => h9) rfl dX4_init_59 ?_
  refine lv_iload_n hx hb dX4_init_62 rfl (lv_at hl 0 rfl) ?_
  refine va_new (ci := 3) (fs := [.null, .int 0, .int 0, .int 0, .int 0, .int 0, .int 0]) (C := RX3) (T := TX3) (N := 7) hx hb hts uw3 tyX3 tyX3_ok hown (hts _ clX4_18) (hts _ in_X3) (hts _ ni_X3) hK.1 hP hD hS hA rfl (fun j hj => by rcases (show j = 0 ∨ j = 1 ∨ j = 2 ∨ j = 3 ∨ j = 4 ∨ j = 5 ∨ j = 6 by omega) with rfl | rfl | rfl | rfl | rfl | rfl | rfl <;> rfl) (Nat.le_of_ble_eq_true rfl) (Nat.le_of_ble_eq_true rfl) dX4_init_63 (fun q H hP hD hS => ?_)
  have hP : va_P D vwCl ((([(h0, .inr (4, [.ref q1, .ref q2, .ref q3, .ref q4, .int 0, .int 0, .int 0, .int 1])), (q1, .inl (k 11, ((12 : Nat), .inl (fun _ => (-1 : Int32))))), (q2, .inl (k 11, ((8 : Nat), .inl (fun _ => (0 : Int32))))), (q3, .inl (k 14, ((8 : Nat), .inr (.inr (.inr (.inr ((fun _ => none)))))))), (q4, .inl (k 11, ((8 : Nat), .inl (fun _ => (0 : Int32)))))] ++ []) ++ n_w D k n_lE as0) ++ [(q, .inr (3, [.null, .int 0, .int 0, .int 0, .int 0, .int 0, .int 0]))]) H := hP
  have hD : va_D A ((([(h0, .inr (4, [.ref q1, .ref q2, .ref q3, .ref q4, .int 0, .int 0, .int 0, .int 1])), (q1, .inl (k 11, ((12 : Nat), .inl (fun _ => (-1 : Int32))))), (q2, .inl (k 11, ((8 : Nat), .inl (fun _ => (0 : Int32))))), (q3, .inl (k 14, ((8 : Nat), .inr (.inr (.inr (.inr ((fun _ => none)))))))), (q4, .inl (k 11, ((8 : Nat), .inl (fun _ => (0 : Int32)))))] ++ []) ++ n_w D k n_lE as0) ++ [(q, .inr (3, [.null, .int 0, .int 0, .int 0, .int 0, .int 0, .int 0]))]) := hD
  refine W.widen (k := 5) (n := 43) (by omega) (by omega) ?_
  refine lv_dup hx hb dX4_init_66 rfl ?_
  have hFc := va_freeL hD hS hA
  refine va_callv (va_runIN (As := []) (rest := [.ref q, .int 0, .ref q3]) ⟨hx, hb, hml, hown, hts⟩ (n_X3_init l D k q H.size) ⟨va_cnB (ws' := j_gw) 0 hts (j_goodS cd_X3_init) rfl rfl rfl (hK.2.1 _ mlX4_37) (hts _ ni_X3) ⟨by decide, by decide, by decide +kernel⟩ ⟨(Nat.le_of_ble_eq_true rfl), (Nat.le_of_ble_eq_true rfl)⟩, rfl, hts _ im_X3_init⟩ ⟨n_blind, n_pre hK hP hD⟩ rfl rfl hl.1 rfl (lv_room (Nat.le_of_ble_eq_true rfl)) dX4_init_67 ⟨(Nat.le_of_ble_eq_true rfl), (Nat.le_of_ble_eq_true rfl)⟩) hS (fun q _ h => hFc q h) hFc (fun u t H1 locs ht hvm h5 hB hz1 hk1 hS => ?_)
  obtain ⟨ak, rfl, hP1, hD1⟩ := hB
  rw [ht] at hP1
  obtain ⟨hP, hD⟩ := va_joinL hP hD hk1 hFc hP1 hD1
  refine W.widen (k := 6) (n := 51) (by omega) (by omega) ?_
  have hP := va_P_perm hP (n_perm1 (x := [(h0, .inr (4, [.ref q1, .ref q2, .ref q3, .ref q4, .int 0, .int 0, .int 0, .int 1])), (q1, .inl (k 11, ((12 : Nat), .inl (fun _ => (-1 : Int32))))), (q2, .inl (k 11, ((8 : Nat), .inl (fun _ => (0 : Int32))))), (q3, .inl (k 14, ((8 : Nat), .inr (.inr (.inr (.inr ((fun _ => none)))))))), (q4, .inl (k 11, ((8 : Nat), .inl (fun _ => (0 : Int32)))))]) (R1 := []) (R2 := n_w D k n_lE as0) (N := n_w D k n_l3 ak))
  have hD := va_D_perm hD (n_perm1 (x := [(h0, .inr (4, [.ref q1, .ref q2, .ref q3, .ref q4, .int 0, .int 0, .int 0, .int 1])), (q1, .inl (k 11, ((12 : Nat), .inl (fun _ => (-1 : Int32))))), (q2, .inl (k 11, ((8 : Nat), .inl (fun _ => (0 : Int32))))), (q3, .inl (k 14, ((8 : Nat), .inr (.inr (.inr (.inr ((fun _ => none)))))))), (q4, .inl (k 11, ((8 : Nat), .inl (fun _ => (0 : Int32)))))]) (R1 := []) (R2 := n_w D k n_lE as0) (N := n_w D k n_l3 ak))
  refine va_astq (r := (RX3, TX3, 7)) (v := ak 0) (vs := [.ref (ak 1), .int 0, .int 0, .int 0, .int 0, .int 0, .int 0]) hx hb hK.1 hP hD hS 3 3 5 3 rfl rfl rfl rfl (by unfold vp_in; decide) dX4_init_70 (fun H locs hP hD hS => ?_)
  have hP : va_P D vwCl ([(h0, .inr (4, [.ref q1, .ref q2, .ref q3, .ref q4, .int 0, .int 0, .int 0, .int 1])), (q1, .inl (k 11, ((12 : Nat), .inl (fun _ => (-1 : Int32))))), (q2, .inl (k 11, ((8 : Nat), .inl (fun _ => (0 : Int32))))), (q3, .inl (k 14, ((8 : Nat), .inr (.inr (.inr (.inr ((va_up (fun _ => none) 0 (some (ak 0)))))))))), (q4, .inl (k 11, ((8 : Nat), .inl (fun _ => (0 : Int32)))))] ++ (n_w D k n_l3 ak ++ ([] ++ n_w D k n_lE as0))) H := hP
  have hD : va_D A ([(h0, .inr (4, [.ref q1, .ref q2, .ref q3, .ref q4, .int 0, .int 0, .int 0, .int 1])), (q1, .inl (k 11, ((12 : Nat), .inl (fun _ => (-1 : Int32))))), (q2, .inl (k 11, ((8 : Nat), .inl (fun _ => (0 : Int32))))), (q3, .inl (k 14, ((8 : Nat), .inr (.inr (.inr (.inr ((va_up (fun _ => none) 0 (some (ak 0)))))))))), (q4, .inl (k 11, ((8 : Nat), .inl (fun _ => (0 : Int32)))))] ++ (n_w D k n_l3 ak ++ ([] ++ n_w D k n_lE as0))) := hD
  have hP := n_P2 n_lE_n n_lE_c n_l3_c (va_P_perm hP n_perm2)
  have hD := n_D2 n_lE_n (va_D_perm hD n_perm2)
  have hP : va_P D vwCl (([(h0, .inr (4, [.ref q1, .ref q2, .ref q3, .ref q4, .int 0, .int 0, .int 0, .int 1])), (q1, .inl (k 11, ((12 : Nat), .inl (fun _ => (-1 : Int32))))), (q2, .inl (k 11, ((8 : Nat), .inl (fun _ => (0 : Int32))))), (q3, .inl (k 14, ((8 : Nat), .inr (.inr (.inr (.inr ((va_up (fun _ => none) 0 (some ((n_ap 0 as0 ak) 0)))))))))), (q4, .inl (k 11, ((8 : Nat), .inl (fun _ => (0 : Int32)))))] ++ []) ++ n_w D k n_t1 (n_ap 0 as0 ak)) H := hP
  have hD : va_D A (([(h0, .inr (4, [.ref q1, .ref q2, .ref q3, .ref q4, .int 0, .int 0, .int 0, .int 1])), (q1, .inl (k 11, ((12 : Nat), .inl (fun _ => (-1 : Int32))))), (q2, .inl (k 11, ((8 : Nat), .inl (fun _ => (0 : Int32))))), (q3, .inl (k 14, ((8 : Nat), .inr (.inr (.inr (.inr ((va_up (fun _ => none) 0 (some ((n_ap 0 as0 ak) 0)))))))))), (q4, .inl (k 11, ((8 : Nat), .inl (fun _ => (0 : Int32)))))] ++ []) ++ n_w D k n_t1 (n_ap 0 as0 ak)) := hD
  generalize n_ap 0 as0 ak = as1 at hP hD
  refine lv_iinc (v := 1) (lv' := [(1, .int 1), (0, .ref h0)]) hx hb dX4_init_71 hl (k := 0) rfl (by decide) (by decide) rfl (fun ls hl => ?_)
  refine lv_goto (tgt := 52) hx hb dX4_init_74 (by decide) ?_
  refine lv_iload_n hx hb dX4_init_52 rfl (lv_at hl 0 rfl) ?_
  refine lv_bipush (v := 8) hx hb dX4_init_53 (by decide) ?_
  refine lv_icmp_ge (tgt := 77) hx hb dX4_init_55 (by decide) (fun h7 => absurd h7 (by decide)) (fun _ => ?_)
  refine lv_aload_n hx hb dX4_init_58 rfl (lv_at hl 1 rfl) ?_
  refine va_get (D := D) (ci := 4) (v := .ref q3) (C := RX4) (T := TX4) (N := 8) hx hb hts uw4 hown hK.1 hP 0 rfl rfl 2 (by decide) (hts _ flX4_20) (fun _ h9 => h9) rfl dX4_init_59 ?_
  refine lv_iload_n hx hb dX4_init_62 rfl (lv_at hl 0 rfl) ?_
  refine va_new (ci := 3) (fs := [.null, .int 0, .int 0, .int 0, .int 0, .int 0, .int 0]) (C := RX3) (T := TX3) (N := 7) hx hb hts uw3 tyX3 tyX3_ok hown (hts _ clX4_18) (hts _ in_X3) (hts _ ni_X3) hK.1 hP hD hS hA rfl (fun j hj => by rcases (show j = 0 ∨ j = 1 ∨ j = 2 ∨ j = 3 ∨ j = 4 ∨ j = 5 ∨ j = 6 by omega) with rfl | rfl | rfl | rfl | rfl | rfl | rfl <;> rfl) (Nat.le_of_ble_eq_true rfl) (Nat.le_of_ble_eq_true rfl) dX4_init_63 (fun q H hP hD hS => ?_)
  have hP : va_P D vwCl ((([(h0, .inr (4, [.ref q1, .ref q2, .ref q3, .ref q4, .int 0, .int 0, .int 0, .int 1])), (q1, .inl (k 11, ((12 : Nat), .inl (fun _ => (-1 : Int32))))), (q2, .inl (k 11, ((8 : Nat), .inl (fun _ => (0 : Int32))))), (q3, .inl (k 14, ((8 : Nat), .inr (.inr (.inr (.inr ((va_up (fun _ => none) 0 (some (as1 0)))))))))), (q4, .inl (k 11, ((8 : Nat), .inl (fun _ => (0 : Int32)))))] ++ []) ++ n_w D k n_t1 as1) ++ [(q, .inr (3, [.null, .int 0, .int 0, .int 0, .int 0, .int 0, .int 0]))]) H := hP
  have hD : va_D A ((([(h0, .inr (4, [.ref q1, .ref q2, .ref q3, .ref q4, .int 0, .int 0, .int 0, .int 1])), (q1, .inl (k 11, ((12 : Nat), .inl (fun _ => (-1 : Int32))))), (q2, .inl (k 11, ((8 : Nat), .inl (fun _ => (0 : Int32))))), (q3, .inl (k 14, ((8 : Nat), .inr (.inr (.inr (.inr ((va_up (fun _ => none) 0 (some (as1 0)))))))))), (q4, .inl (k 11, ((8 : Nat), .inl (fun _ => (0 : Int32)))))] ++ []) ++ n_w D k n_t1 as1) ++ [(q, .inr (3, [.null, .int 0, .int 0, .int 0, .int 0, .int 0, .int 0]))]) := hD
  refine W.widen (k := 7) (n := 58) (by omega) (by omega) ?_
  refine lv_dup hx hb dX4_init_66 rfl ?_
  have hFc := va_freeL hD hS hA
  refine va_callv (va_runIN (As := []) (rest := [.ref q, .int 1, .ref q3]) ⟨hx, hb, hml, hown, hts⟩ (n_X3_init l D k q H.size) ⟨va_cnB (ws' := j_gw) 0 hts (j_goodS cd_X3_init) rfl rfl rfl (hK.2.1 _ mlX4_37) (hts _ ni_X3) ⟨by decide, by decide, by decide +kernel⟩ ⟨(Nat.le_of_ble_eq_true rfl), (Nat.le_of_ble_eq_true rfl)⟩, rfl, hts _ im_X3_init⟩ ⟨n_blind, n_pre hK hP hD⟩ rfl rfl hl.1 rfl (lv_room (Nat.le_of_ble_eq_true rfl)) dX4_init_67 ⟨(Nat.le_of_ble_eq_true rfl), (Nat.le_of_ble_eq_true rfl)⟩) hS (fun q _ h => hFc q h) hFc (fun u t H1 locs ht hvm h5 hB hz1 hk1 hS => ?_)
  obtain ⟨ak, rfl, hP1, hD1⟩ := hB
  rw [ht] at hP1
  obtain ⟨hP, hD⟩ := va_joinL hP hD hk1 hFc hP1 hD1
  refine W.widen (k := 8) (n := 66) (by omega) (by omega) ?_
  have hP := va_P_perm hP (n_perm1 (x := [(h0, .inr (4, [.ref q1, .ref q2, .ref q3, .ref q4, .int 0, .int 0, .int 0, .int 1])), (q1, .inl (k 11, ((12 : Nat), .inl (fun _ => (-1 : Int32))))), (q2, .inl (k 11, ((8 : Nat), .inl (fun _ => (0 : Int32))))), (q3, .inl (k 14, ((8 : Nat), .inr (.inr (.inr (.inr ((va_up (fun _ => none) 0 (some (as1 0)))))))))), (q4, .inl (k 11, ((8 : Nat), .inl (fun _ => (0 : Int32)))))]) (R1 := []) (R2 := n_w D k n_t1 as1) (N := n_w D k n_l3 ak))
  have hD := va_D_perm hD (n_perm1 (x := [(h0, .inr (4, [.ref q1, .ref q2, .ref q3, .ref q4, .int 0, .int 0, .int 0, .int 1])), (q1, .inl (k 11, ((12 : Nat), .inl (fun _ => (-1 : Int32))))), (q2, .inl (k 11, ((8 : Nat), .inl (fun _ => (0 : Int32))))), (q3, .inl (k 14, ((8 : Nat), .inr (.inr (.inr (.inr ((va_up (fun _ => none) 0 (some (as1 0)))))))))), (q4, .inl (k 11, ((8 : Nat), .inl (fun _ => (0 : Int32)))))]) (R1 := []) (R2 := n_w D k n_t1 as1) (N := n_w D k n_l3 ak))
  refine va_astq (r := (RX3, TX3, 7)) (v := ak 0) (vs := [.ref (ak 1), .int 0, .int 0, .int 0, .int 0, .int 0, .int 0]) hx hb hK.1 hP hD hS 3 3 5 3 rfl rfl rfl rfl (by unfold vp_in; decide) dX4_init_70 (fun H locs hP hD hS => ?_)
  have hP : va_P D vwCl ([(h0, .inr (4, [.ref q1, .ref q2, .ref q3, .ref q4, .int 0, .int 0, .int 0, .int 1])), (q1, .inl (k 11, ((12 : Nat), .inl (fun _ => (-1 : Int32))))), (q2, .inl (k 11, ((8 : Nat), .inl (fun _ => (0 : Int32))))), (q3, .inl (k 14, ((8 : Nat), .inr (.inr (.inr (.inr ((va_up (va_up (fun _ => none) 0 (some (as1 0))) 1 (some (ak 0)))))))))), (q4, .inl (k 11, ((8 : Nat), .inl (fun _ => (0 : Int32)))))] ++ (n_w D k n_l3 ak ++ ([] ++ n_w D k n_t1 as1))) H := hP
  have hD : va_D A ([(h0, .inr (4, [.ref q1, .ref q2, .ref q3, .ref q4, .int 0, .int 0, .int 0, .int 1])), (q1, .inl (k 11, ((12 : Nat), .inl (fun _ => (-1 : Int32))))), (q2, .inl (k 11, ((8 : Nat), .inl (fun _ => (0 : Int32))))), (q3, .inl (k 14, ((8 : Nat), .inr (.inr (.inr (.inr ((va_up (va_up (fun _ => none) 0 (some (as1 0))) 1 (some (ak 0)))))))))), (q4, .inl (k 11, ((8 : Nat), .inl (fun _ => (0 : Int32)))))] ++ (n_w D k n_l3 ak ++ ([] ++ n_w D k n_t1 as1))) := hD
  have hP := n_P2 n_t1_n n_t1_c n_l3_c (va_P_perm hP n_perm2)
  have hD := n_D2 n_t1_n (va_D_perm hD n_perm2)
  have hP : va_P D vwCl (([(h0, .inr (4, [.ref q1, .ref q2, .ref q3, .ref q4, .int 0, .int 0, .int 0, .int 1])), (q1, .inl (k 11, ((12 : Nat), .inl (fun _ => (-1 : Int32))))), (q2, .inl (k 11, ((8 : Nat), .inl (fun _ => (0 : Int32))))), (q3, .inl (k 14, ((8 : Nat), .inr (.inr (.inr (.inr ((va_up (va_up (fun _ => none) 0 (some ((n_ap 2 as1 ak) 0))) 1 (some ((n_ap 2 as1 ak) 2)))))))))), (q4, .inl (k 11, ((8 : Nat), .inl (fun _ => (0 : Int32)))))] ++ []) ++ n_w D k n_t2 (n_ap 2 as1 ak)) H := hP
  have hD : va_D A (([(h0, .inr (4, [.ref q1, .ref q2, .ref q3, .ref q4, .int 0, .int 0, .int 0, .int 1])), (q1, .inl (k 11, ((12 : Nat), .inl (fun _ => (-1 : Int32))))), (q2, .inl (k 11, ((8 : Nat), .inl (fun _ => (0 : Int32))))), (q3, .inl (k 14, ((8 : Nat), .inr (.inr (.inr (.inr ((va_up (va_up (fun _ => none) 0 (some ((n_ap 2 as1 ak) 0))) 1 (some ((n_ap 2 as1 ak) 2)))))))))), (q4, .inl (k 11, ((8 : Nat), .inl (fun _ => (0 : Int32)))))] ++ []) ++ n_w D k n_t2 (n_ap 2 as1 ak)) := hD
  generalize n_ap 2 as1 ak = as2 at hP hD
  refine lv_iinc (v := 2) (lv' := [(1, .int 2), (0, .ref h0)]) hx hb dX4_init_71 hl (k := 0) rfl (by decide) (by decide) rfl (fun ls hl => ?_)
  refine lv_goto (tgt := 52) hx hb dX4_init_74 (by decide) ?_
  refine lv_iload_n hx hb dX4_init_52 rfl (lv_at hl 0 rfl) ?_
  refine lv_bipush (v := 8) hx hb dX4_init_53 (by decide) ?_
  refine lv_icmp_ge (tgt := 77) hx hb dX4_init_55 (by decide) (fun h7 => absurd h7 (by decide)) (fun _ => ?_)
  refine lv_aload_n hx hb dX4_init_58 rfl (lv_at hl 1 rfl) ?_
  refine va_get (D := D) (ci := 4) (v := .ref q3) (C := RX4) (T := TX4) (N := 8) hx hb hts uw4 hown hK.1 hP 0 rfl rfl 2 (by decide) (hts _ flX4_20) (fun _ h9 => h9) rfl dX4_init_59 ?_
  refine lv_iload_n hx hb dX4_init_62 rfl (lv_at hl 0 rfl) ?_
  refine va_new (ci := 3) (fs := [.null, .int 0, .int 0, .int 0, .int 0, .int 0, .int 0]) (C := RX3) (T := TX3) (N := 7) hx hb hts uw3 tyX3 tyX3_ok hown (hts _ clX4_18) (hts _ in_X3) (hts _ ni_X3) hK.1 hP hD hS hA rfl (fun j hj => by rcases (show j = 0 ∨ j = 1 ∨ j = 2 ∨ j = 3 ∨ j = 4 ∨ j = 5 ∨ j = 6 by omega) with rfl | rfl | rfl | rfl | rfl | rfl | rfl <;> rfl) (Nat.le_of_ble_eq_true rfl) (Nat.le_of_ble_eq_true rfl) dX4_init_63 (fun q H hP hD hS => ?_)
  have hP : va_P D vwCl ((([(h0, .inr (4, [.ref q1, .ref q2, .ref q3, .ref q4, .int 0, .int 0, .int 0, .int 1])), (q1, .inl (k 11, ((12 : Nat), .inl (fun _ => (-1 : Int32))))), (q2, .inl (k 11, ((8 : Nat), .inl (fun _ => (0 : Int32))))), (q3, .inl (k 14, ((8 : Nat), .inr (.inr (.inr (.inr ((va_up (va_up (fun _ => none) 0 (some (as2 0))) 1 (some (as2 2)))))))))), (q4, .inl (k 11, ((8 : Nat), .inl (fun _ => (0 : Int32)))))] ++ []) ++ n_w D k n_t2 as2) ++ [(q, .inr (3, [.null, .int 0, .int 0, .int 0, .int 0, .int 0, .int 0]))]) H := hP
  have hD : va_D A ((([(h0, .inr (4, [.ref q1, .ref q2, .ref q3, .ref q4, .int 0, .int 0, .int 0, .int 1])), (q1, .inl (k 11, ((12 : Nat), .inl (fun _ => (-1 : Int32))))), (q2, .inl (k 11, ((8 : Nat), .inl (fun _ => (0 : Int32))))), (q3, .inl (k 14, ((8 : Nat), .inr (.inr (.inr (.inr ((va_up (va_up (fun _ => none) 0 (some (as2 0))) 1 (some (as2 2)))))))))), (q4, .inl (k 11, ((8 : Nat), .inl (fun _ => (0 : Int32)))))] ++ []) ++ n_w D k n_t2 as2) ++ [(q, .inr (3, [.null, .int 0, .int 0, .int 0, .int 0, .int 0, .int 0]))]) := hD
  refine W.widen (k := 9) (n := 73) (by omega) (by omega) ?_
  refine lv_dup hx hb dX4_init_66 rfl ?_
  have hFc := va_freeL hD hS hA
  refine va_callv (va_runIN (As := []) (rest := [.ref q, .int 2, .ref q3]) ⟨hx, hb, hml, hown, hts⟩ (n_X3_init l D k q H.size) ⟨va_cnB (ws' := j_gw) 0 hts (j_goodS cd_X3_init) rfl rfl rfl (hK.2.1 _ mlX4_37) (hts _ ni_X3) ⟨by decide, by decide, by decide +kernel⟩ ⟨(Nat.le_of_ble_eq_true rfl), (Nat.le_of_ble_eq_true rfl)⟩, rfl, hts _ im_X3_init⟩ ⟨n_blind, n_pre hK hP hD⟩ rfl rfl hl.1 rfl (lv_room (Nat.le_of_ble_eq_true rfl)) dX4_init_67 ⟨(Nat.le_of_ble_eq_true rfl), (Nat.le_of_ble_eq_true rfl)⟩) hS (fun q _ h => hFc q h) hFc (fun u t H1 locs ht hvm h5 hB hz1 hk1 hS => ?_)
  obtain ⟨ak, rfl, hP1, hD1⟩ := hB
  rw [ht] at hP1
  obtain ⟨hP, hD⟩ := va_joinL hP hD hk1 hFc hP1 hD1
  refine W.widen (k := 10) (n := 81) (by omega) (by omega) ?_
  have hP := va_P_perm hP (n_perm1 (x := [(h0, .inr (4, [.ref q1, .ref q2, .ref q3, .ref q4, .int 0, .int 0, .int 0, .int 1])), (q1, .inl (k 11, ((12 : Nat), .inl (fun _ => (-1 : Int32))))), (q2, .inl (k 11, ((8 : Nat), .inl (fun _ => (0 : Int32))))), (q3, .inl (k 14, ((8 : Nat), .inr (.inr (.inr (.inr ((va_up (va_up (fun _ => none) 0 (some (as2 0))) 1 (some (as2 2)))))))))), (q4, .inl (k 11, ((8 : Nat), .inl (fun _ => (0 : Int32)))))]) (R1 := []) (R2 := n_w D k n_t2 as2) (N := n_w D k n_l3 ak))
  have hD := va_D_perm hD (n_perm1 (x := [(h0, .inr (4, [.ref q1, .ref q2, .ref q3, .ref q4, .int 0, .int 0, .int 0, .int 1])), (q1, .inl (k 11, ((12 : Nat), .inl (fun _ => (-1 : Int32))))), (q2, .inl (k 11, ((8 : Nat), .inl (fun _ => (0 : Int32))))), (q3, .inl (k 14, ((8 : Nat), .inr (.inr (.inr (.inr ((va_up (va_up (fun _ => none) 0 (some (as2 0))) 1 (some (as2 2)))))))))), (q4, .inl (k 11, ((8 : Nat), .inl (fun _ => (0 : Int32)))))]) (R1 := []) (R2 := n_w D k n_t2 as2) (N := n_w D k n_l3 ak))
  refine va_astq (r := (RX3, TX3, 7)) (v := ak 0) (vs := [.ref (ak 1), .int 0, .int 0, .int 0, .int 0, .int 0, .int 0]) hx hb hK.1 hP hD hS 3 3 5 3 rfl rfl rfl rfl (by unfold vp_in; decide) dX4_init_70 (fun H locs hP hD hS => ?_)
  have hP : va_P D vwCl ([(h0, .inr (4, [.ref q1, .ref q2, .ref q3, .ref q4, .int 0, .int 0, .int 0, .int 1])), (q1, .inl (k 11, ((12 : Nat), .inl (fun _ => (-1 : Int32))))), (q2, .inl (k 11, ((8 : Nat), .inl (fun _ => (0 : Int32))))), (q3, .inl (k 14, ((8 : Nat), .inr (.inr (.inr (.inr ((va_up (va_up (va_up (fun _ => none) 0 (some (as2 0))) 1 (some (as2 2))) 2 (some (ak 0)))))))))), (q4, .inl (k 11, ((8 : Nat), .inl (fun _ => (0 : Int32)))))] ++ (n_w D k n_l3 ak ++ ([] ++ n_w D k n_t2 as2))) H := hP
  have hD : va_D A ([(h0, .inr (4, [.ref q1, .ref q2, .ref q3, .ref q4, .int 0, .int 0, .int 0, .int 1])), (q1, .inl (k 11, ((12 : Nat), .inl (fun _ => (-1 : Int32))))), (q2, .inl (k 11, ((8 : Nat), .inl (fun _ => (0 : Int32))))), (q3, .inl (k 14, ((8 : Nat), .inr (.inr (.inr (.inr ((va_up (va_up (va_up (fun _ => none) 0 (some (as2 0))) 1 (some (as2 2))) 2 (some (ak 0)))))))))), (q4, .inl (k 11, ((8 : Nat), .inl (fun _ => (0 : Int32)))))] ++ (n_w D k n_l3 ak ++ ([] ++ n_w D k n_t2 as2))) := hD
  have hP := n_P2 n_t2_n n_t2_c n_l3_c (va_P_perm hP n_perm2)
  have hD := n_D2 n_t2_n (va_D_perm hD n_perm2)
  have hP : va_P D vwCl (([(h0, .inr (4, [.ref q1, .ref q2, .ref q3, .ref q4, .int 0, .int 0, .int 0, .int 1])), (q1, .inl (k 11, ((12 : Nat), .inl (fun _ => (-1 : Int32))))), (q2, .inl (k 11, ((8 : Nat), .inl (fun _ => (0 : Int32))))), (q3, .inl (k 14, ((8 : Nat), .inr (.inr (.inr (.inr ((va_up (va_up (va_up (fun _ => none) 0 (some ((n_ap 4 as2 ak) 0))) 1 (some ((n_ap 4 as2 ak) 2))) 2 (some ((n_ap 4 as2 ak) 4)))))))))), (q4, .inl (k 11, ((8 : Nat), .inl (fun _ => (0 : Int32)))))] ++ []) ++ n_w D k n_t3 (n_ap 4 as2 ak)) H := hP
  have hD : va_D A (([(h0, .inr (4, [.ref q1, .ref q2, .ref q3, .ref q4, .int 0, .int 0, .int 0, .int 1])), (q1, .inl (k 11, ((12 : Nat), .inl (fun _ => (-1 : Int32))))), (q2, .inl (k 11, ((8 : Nat), .inl (fun _ => (0 : Int32))))), (q3, .inl (k 14, ((8 : Nat), .inr (.inr (.inr (.inr ((va_up (va_up (va_up (fun _ => none) 0 (some ((n_ap 4 as2 ak) 0))) 1 (some ((n_ap 4 as2 ak) 2))) 2 (some ((n_ap 4 as2 ak) 4)))))))))), (q4, .inl (k 11, ((8 : Nat), .inl (fun _ => (0 : Int32)))))] ++ []) ++ n_w D k n_t3 (n_ap 4 as2 ak)) := hD
  generalize n_ap 4 as2 ak = as3 at hP hD
  refine lv_iinc (v := 3) (lv' := [(1, .int 3), (0, .ref h0)]) hx hb dX4_init_71 hl (k := 0) rfl (by decide) (by decide) rfl (fun ls hl => ?_)
  refine lv_goto (tgt := 52) hx hb dX4_init_74 (by decide) ?_
  refine lv_iload_n hx hb dX4_init_52 rfl (lv_at hl 0 rfl) ?_
  refine lv_bipush (v := 8) hx hb dX4_init_53 (by decide) ?_
  refine lv_icmp_ge (tgt := 77) hx hb dX4_init_55 (by decide) (fun h7 => absurd h7 (by decide)) (fun _ => ?_)
  refine lv_aload_n hx hb dX4_init_58 rfl (lv_at hl 1 rfl) ?_
  refine va_get (D := D) (ci := 4) (v := .ref q3) (C := RX4) (T := TX4) (N := 8) hx hb hts uw4 hown hK.1 hP 0 rfl rfl 2 (by decide) (hts _ flX4_20) (fun _ h9 => h9) rfl dX4_init_59 ?_
  refine lv_iload_n hx hb dX4_init_62 rfl (lv_at hl 0 rfl) ?_
  refine va_new (ci := 3) (fs := [.null, .int 0, .int 0, .int 0, .int 0, .int 0, .int 0]) (C := RX3) (T := TX3) (N := 7) hx hb hts uw3 tyX3 tyX3_ok hown (hts _ clX4_18) (hts _ in_X3) (hts _ ni_X3) hK.1 hP hD hS hA rfl (fun j hj => by rcases (show j = 0 ∨ j = 1 ∨ j = 2 ∨ j = 3 ∨ j = 4 ∨ j = 5 ∨ j = 6 by omega) with rfl | rfl | rfl | rfl | rfl | rfl | rfl <;> rfl) (Nat.le_of_ble_eq_true rfl) (Nat.le_of_ble_eq_true rfl) dX4_init_63 (fun q H hP hD hS => ?_)
  have hP : va_P D vwCl ((([(h0, .inr (4, [.ref q1, .ref q2, .ref q3, .ref q4, .int 0, .int 0, .int 0, .int 1])), (q1, .inl (k 11, ((12 : Nat), .inl (fun _ => (-1 : Int32))))), (q2, .inl (k 11, ((8 : Nat), .inl (fun _ => (0 : Int32))))), (q3, .inl (k 14, ((8 : Nat), .inr (.inr (.inr (.inr ((va_up (va_up (va_up (fun _ => none) 0 (some (as3 0))) 1 (some (as3 2))) 2 (some (as3 4)))))))))), (q4, .inl (k 11, ((8 : Nat), .inl (fun _ => (0 : Int32)))))] ++ []) ++ n_w D k n_t3 as3) ++ [(q, .inr (3, [.null, .int 0, .int 0, .int 0, .int 0, .int 0, .int 0]))]) H := hP
  have hD : va_D A ((([(h0, .inr (4, [.ref q1, .ref q2, .ref q3, .ref q4, .int 0, .int 0, .int 0, .int 1])), (q1, .inl (k 11, ((12 : Nat), .inl (fun _ => (-1 : Int32))))), (q2, .inl (k 11, ((8 : Nat), .inl (fun _ => (0 : Int32))))), (q3, .inl (k 14, ((8 : Nat), .inr (.inr (.inr (.inr ((va_up (va_up (va_up (fun _ => none) 0 (some (as3 0))) 1 (some (as3 2))) 2 (some (as3 4)))))))))), (q4, .inl (k 11, ((8 : Nat), .inl (fun _ => (0 : Int32)))))] ++ []) ++ n_w D k n_t3 as3) ++ [(q, .inr (3, [.null, .int 0, .int 0, .int 0, .int 0, .int 0, .int 0]))]) := hD
  refine W.widen (k := 11) (n := 88) (by omega) (by omega) ?_
  refine lv_dup hx hb dX4_init_66 rfl ?_
  have hFc := va_freeL hD hS hA
  refine va_callv (va_runIN (As := []) (rest := [.ref q, .int 3, .ref q3]) ⟨hx, hb, hml, hown, hts⟩ (n_X3_init l D k q H.size) ⟨va_cnB (ws' := j_gw) 0 hts (j_goodS cd_X3_init) rfl rfl rfl (hK.2.1 _ mlX4_37) (hts _ ni_X3) ⟨by decide, by decide, by decide +kernel⟩ ⟨(Nat.le_of_ble_eq_true rfl), (Nat.le_of_ble_eq_true rfl)⟩, rfl, hts _ im_X3_init⟩ ⟨n_blind, n_pre hK hP hD⟩ rfl rfl hl.1 rfl (lv_room (Nat.le_of_ble_eq_true rfl)) dX4_init_67 ⟨(Nat.le_of_ble_eq_true rfl), (Nat.le_of_ble_eq_true rfl)⟩) hS (fun q _ h => hFc q h) hFc (fun u t H1 locs ht hvm h5 hB hz1 hk1 hS => ?_)
  obtain ⟨ak, rfl, hP1, hD1⟩ := hB
  rw [ht] at hP1
  obtain ⟨hP, hD⟩ := va_joinL hP hD hk1 hFc hP1 hD1
  refine W.widen (k := 12) (n := 96) (by omega) (by omega) ?_
  have hP := va_P_perm hP (n_perm1 (x := [(h0, .inr (4, [.ref q1, .ref q2, .ref q3, .ref q4, .int 0, .int 0, .int 0, .int 1])), (q1, .inl (k 11, ((12 : Nat), .inl (fun _ => (-1 : Int32))))), (q2, .inl (k 11, ((8 : Nat), .inl (fun _ => (0 : Int32))))), (q3, .inl (k 14, ((8 : Nat), .inr (.inr (.inr (.inr ((va_up (va_up (va_up (fun _ => none) 0 (some (as3 0))) 1 (some (as3 2))) 2 (some (as3 4)))))))))), (q4, .inl (k 11, ((8 : Nat), .inl (fun _ => (0 : Int32)))))]) (R1 := []) (R2 := n_w D k n_t3 as3) (N := n_w D k n_l3 ak))
  have hD := va_D_perm hD (n_perm1 (x := [(h0, .inr (4, [.ref q1, .ref q2, .ref q3, .ref q4, .int 0, .int 0, .int 0, .int 1])), (q1, .inl (k 11, ((12 : Nat), .inl (fun _ => (-1 : Int32))))), (q2, .inl (k 11, ((8 : Nat), .inl (fun _ => (0 : Int32))))), (q3, .inl (k 14, ((8 : Nat), .inr (.inr (.inr (.inr ((va_up (va_up (va_up (fun _ => none) 0 (some (as3 0))) 1 (some (as3 2))) 2 (some (as3 4)))))))))), (q4, .inl (k 11, ((8 : Nat), .inl (fun _ => (0 : Int32)))))]) (R1 := []) (R2 := n_w D k n_t3 as3) (N := n_w D k n_l3 ak))
  refine va_astq (r := (RX3, TX3, 7)) (v := ak 0) (vs := [.ref (ak 1), .int 0, .int 0, .int 0, .int 0, .int 0, .int 0]) hx hb hK.1 hP hD hS 3 3 5 3 rfl rfl rfl rfl (by unfold vp_in; decide) dX4_init_70 (fun H locs hP hD hS => ?_)
  have hP : va_P D vwCl ([(h0, .inr (4, [.ref q1, .ref q2, .ref q3, .ref q4, .int 0, .int 0, .int 0, .int 1])), (q1, .inl (k 11, ((12 : Nat), .inl (fun _ => (-1 : Int32))))), (q2, .inl (k 11, ((8 : Nat), .inl (fun _ => (0 : Int32))))), (q3, .inl (k 14, ((8 : Nat), .inr (.inr (.inr (.inr ((va_up (va_up (va_up (va_up (fun _ => none) 0 (some (as3 0))) 1 (some (as3 2))) 2 (some (as3 4))) 3 (some (ak 0)))))))))), (q4, .inl (k 11, ((8 : Nat), .inl (fun _ => (0 : Int32)))))] ++ (n_w D k n_l3 ak ++ ([] ++ n_w D k n_t3 as3))) H := hP
  have hD : va_D A ([(h0, .inr (4, [.ref q1, .ref q2, .ref q3, .ref q4, .int 0, .int 0, .int 0, .int 1])), (q1, .inl (k 11, ((12 : Nat), .inl (fun _ => (-1 : Int32))))), (q2, .inl (k 11, ((8 : Nat), .inl (fun _ => (0 : Int32))))), (q3, .inl (k 14, ((8 : Nat), .inr (.inr (.inr (.inr ((va_up (va_up (va_up (va_up (fun _ => none) 0 (some (as3 0))) 1 (some (as3 2))) 2 (some (as3 4))) 3 (some (ak 0)))))))))), (q4, .inl (k 11, ((8 : Nat), .inl (fun _ => (0 : Int32)))))] ++ (n_w D k n_l3 ak ++ ([] ++ n_w D k n_t3 as3))) := hD
  have hP := n_P2 n_t3_n n_t3_c n_l3_c (va_P_perm hP n_perm2)
  have hD := n_D2 n_t3_n (va_D_perm hD n_perm2)
  have hP : va_P D vwCl (([(h0, .inr (4, [.ref q1, .ref q2, .ref q3, .ref q4, .int 0, .int 0, .int 0, .int 1])), (q1, .inl (k 11, ((12 : Nat), .inl (fun _ => (-1 : Int32))))), (q2, .inl (k 11, ((8 : Nat), .inl (fun _ => (0 : Int32))))), (q3, .inl (k 14, ((8 : Nat), .inr (.inr (.inr (.inr ((va_up (va_up (va_up (va_up (fun _ => none) 0 (some ((n_ap 6 as3 ak) 0))) 1 (some ((n_ap 6 as3 ak) 2))) 2 (some ((n_ap 6 as3 ak) 4))) 3 (some ((n_ap 6 as3 ak) 6)))))))))), (q4, .inl (k 11, ((8 : Nat), .inl (fun _ => (0 : Int32)))))] ++ []) ++ n_w D k n_t4 (n_ap 6 as3 ak)) H := hP
  have hD : va_D A (([(h0, .inr (4, [.ref q1, .ref q2, .ref q3, .ref q4, .int 0, .int 0, .int 0, .int 1])), (q1, .inl (k 11, ((12 : Nat), .inl (fun _ => (-1 : Int32))))), (q2, .inl (k 11, ((8 : Nat), .inl (fun _ => (0 : Int32))))), (q3, .inl (k 14, ((8 : Nat), .inr (.inr (.inr (.inr ((va_up (va_up (va_up (va_up (fun _ => none) 0 (some ((n_ap 6 as3 ak) 0))) 1 (some ((n_ap 6 as3 ak) 2))) 2 (some ((n_ap 6 as3 ak) 4))) 3 (some ((n_ap 6 as3 ak) 6)))))))))), (q4, .inl (k 11, ((8 : Nat), .inl (fun _ => (0 : Int32)))))] ++ []) ++ n_w D k n_t4 (n_ap 6 as3 ak)) := hD
  generalize n_ap 6 as3 ak = as4 at hP hD
  refine lv_iinc (v := 4) (lv' := [(1, .int 4), (0, .ref h0)]) hx hb dX4_init_71 hl (k := 0) rfl (by decide) (by decide) rfl (fun ls hl => ?_)
  refine lv_goto (tgt := 52) hx hb dX4_init_74 (by decide) ?_
  refine lv_iload_n hx hb dX4_init_52 rfl (lv_at hl 0 rfl) ?_
  refine lv_bipush (v := 8) hx hb dX4_init_53 (by decide) ?_
  refine lv_icmp_ge (tgt := 77) hx hb dX4_init_55 (by decide) (fun h7 => absurd h7 (by decide)) (fun _ => ?_)
  refine lv_aload_n hx hb dX4_init_58 rfl (lv_at hl 1 rfl) ?_
  refine va_get (D := D) (ci := 4) (v := .ref q3) (C := RX4) (T := TX4) (N := 8) hx hb hts uw4 hown hK.1 hP 0 rfl rfl 2 (by decide) (hts _ flX4_20) (fun _ h9 => h9) rfl dX4_init_59 ?_
  refine lv_iload_n hx hb dX4_init_62 rfl (lv_at hl 0 rfl) ?_
  refine va_new (ci := 3) (fs := [.null, .int 0, .int 0, .int 0, .int 0, .int 0, .int 0]) (C := RX3) (T := TX3) (N := 7) hx hb hts uw3 tyX3 tyX3_ok hown (hts _ clX4_18) (hts _ in_X3) (hts _ ni_X3) hK.1 hP hD hS hA rfl (fun j hj => by rcases (show j = 0 ∨ j = 1 ∨ j = 2 ∨ j = 3 ∨ j = 4 ∨ j = 5 ∨ j = 6 by omega) with rfl | rfl | rfl | rfl | rfl | rfl | rfl <;> rfl) (Nat.le_of_ble_eq_true rfl) (Nat.le_of_ble_eq_true rfl) dX4_init_63 (fun q H hP hD hS => ?_)
  have hP : va_P D vwCl ((([(h0, .inr (4, [.ref q1, .ref q2, .ref q3, .ref q4, .int 0, .int 0, .int 0, .int 1])), (q1, .inl (k 11, ((12 : Nat), .inl (fun _ => (-1 : Int32))))), (q2, .inl (k 11, ((8 : Nat), .inl (fun _ => (0 : Int32))))), (q3, .inl (k 14, ((8 : Nat), .inr (.inr (.inr (.inr ((va_up (va_up (va_up (va_up (fun _ => none) 0 (some (as4 0))) 1 (some (as4 2))) 2 (some (as4 4))) 3 (some (as4 6)))))))))), (q4, .inl (k 11, ((8 : Nat), .inl (fun _ => (0 : Int32)))))] ++ []) ++ n_w D k n_t4 as4) ++ [(q, .inr (3, [.null, .int 0, .int 0, .int 0, .int 0, .int 0, .int 0]))]) H := hP
  have hD : va_D A ((([(h0, .inr (4, [.ref q1, .ref q2, .ref q3, .ref q4, .int 0, .int 0, .int 0, .int 1])), (q1, .inl (k 11, ((12 : Nat), .inl (fun _ => (-1 : Int32))))), (q2, .inl (k 11, ((8 : Nat), .inl (fun _ => (0 : Int32))))), (q3, .inl (k 14, ((8 : Nat), .inr (.inr (.inr (.inr ((va_up (va_up (va_up (va_up (fun _ => none) 0 (some (as4 0))) 1 (some (as4 2))) 2 (some (as4 4))) 3 (some (as4 6)))))))))), (q4, .inl (k 11, ((8 : Nat), .inl (fun _ => (0 : Int32)))))] ++ []) ++ n_w D k n_t4 as4) ++ [(q, .inr (3, [.null, .int 0, .int 0, .int 0, .int 0, .int 0, .int 0]))]) := hD
  refine W.widen (k := 13) (n := 103) (by omega) (by omega) ?_
  refine lv_dup hx hb dX4_init_66 rfl ?_
  have hFc := va_freeL hD hS hA
  refine va_callv (va_runIN (As := []) (rest := [.ref q, .int 4, .ref q3]) ⟨hx, hb, hml, hown, hts⟩ (n_X3_init l D k q H.size) ⟨va_cnB (ws' := j_gw) 0 hts (j_goodS cd_X3_init) rfl rfl rfl (hK.2.1 _ mlX4_37) (hts _ ni_X3) ⟨by decide, by decide, by decide +kernel⟩ ⟨(Nat.le_of_ble_eq_true rfl), (Nat.le_of_ble_eq_true rfl)⟩, rfl, hts _ im_X3_init⟩ ⟨n_blind, n_pre hK hP hD⟩ rfl rfl hl.1 rfl (lv_room (Nat.le_of_ble_eq_true rfl)) dX4_init_67 ⟨(Nat.le_of_ble_eq_true rfl), (Nat.le_of_ble_eq_true rfl)⟩) hS (fun q _ h => hFc q h) hFc (fun u t H1 locs ht hvm h5 hB hz1 hk1 hS => ?_)
  obtain ⟨ak, rfl, hP1, hD1⟩ := hB
  rw [ht] at hP1
  obtain ⟨hP, hD⟩ := va_joinL hP hD hk1 hFc hP1 hD1
  refine W.widen (k := 14) (n := 111) (by omega) (by omega) ?_
  have hP := va_P_perm hP (n_perm1 (x := [(h0, .inr (4, [.ref q1, .ref q2, .ref q3, .ref q4, .int 0, .int 0, .int 0, .int 1])), (q1, .inl (k 11, ((12 : Nat), .inl (fun _ => (-1 : Int32))))), (q2, .inl (k 11, ((8 : Nat), .inl (fun _ => (0 : Int32))))), (q3, .inl (k 14, ((8 : Nat), .inr (.inr (.inr (.inr ((va_up (va_up (va_up (va_up (fun _ => none) 0 (some (as4 0))) 1 (some (as4 2))) 2 (some (as4 4))) 3 (some (as4 6)))))))))), (q4, .inl (k 11, ((8 : Nat), .inl (fun _ => (0 : Int32)))))]) (R1 := []) (R2 := n_w D k n_t4 as4) (N := n_w D k n_l3 ak))
  have hD := va_D_perm hD (n_perm1 (x := [(h0, .inr (4, [.ref q1, .ref q2, .ref q3, .ref q4, .int 0, .int 0, .int 0, .int 1])), (q1, .inl (k 11, ((12 : Nat), .inl (fun _ => (-1 : Int32))))), (q2, .inl (k 11, ((8 : Nat), .inl (fun _ => (0 : Int32))))), (q3, .inl (k 14, ((8 : Nat), .inr (.inr (.inr (.inr ((va_up (va_up (va_up (va_up (fun _ => none) 0 (some (as4 0))) 1 (some (as4 2))) 2 (some (as4 4))) 3 (some (as4 6)))))))))), (q4, .inl (k 11, ((8 : Nat), .inl (fun _ => (0 : Int32)))))]) (R1 := []) (R2 := n_w D k n_t4 as4) (N := n_w D k n_l3 ak))
  refine va_astq (r := (RX3, TX3, 7)) (v := ak 0) (vs := [.ref (ak 1), .int 0, .int 0, .int 0, .int 0, .int 0, .int 0]) hx hb hK.1 hP hD hS 3 3 5 3 rfl rfl rfl rfl (by unfold vp_in; decide) dX4_init_70 (fun H locs hP hD hS => ?_)
  have hP : va_P D vwCl ([(h0, .inr (4, [.ref q1, .ref q2, .ref q3, .ref q4, .int 0, .int 0, .int 0, .int 1])), (q1, .inl (k 11, ((12 : Nat), .inl (fun _ => (-1 : Int32))))), (q2, .inl (k 11, ((8 : Nat), .inl (fun _ => (0 : Int32))))), (q3, .inl (k 14, ((8 : Nat), .inr (.inr (.inr (.inr ((va_up (va_up (va_up (va_up (va_up (fun _ => none) 0 (some (as4 0))) 1 (some (as4 2))) 2 (some (as4 4))) 3 (some (as4 6))) 4 (some (ak 0)))))))))), (q4, .inl (k 11, ((8 : Nat), .inl (fun _ => (0 : Int32)))))] ++ (n_w D k n_l3 ak ++ ([] ++ n_w D k n_t4 as4))) H := hP
  have hD : va_D A ([(h0, .inr (4, [.ref q1, .ref q2, .ref q3, .ref q4, .int 0, .int 0, .int 0, .int 1])), (q1, .inl (k 11, ((12 : Nat), .inl (fun _ => (-1 : Int32))))), (q2, .inl (k 11, ((8 : Nat), .inl (fun _ => (0 : Int32))))), (q3, .inl (k 14, ((8 : Nat), .inr (.inr (.inr (.inr ((va_up (va_up (va_up (va_up (va_up (fun _ => none) 0 (some (as4 0))) 1 (some (as4 2))) 2 (some (as4 4))) 3 (some (as4 6))) 4 (some (ak 0)))))))))), (q4, .inl (k 11, ((8 : Nat), .inl (fun _ => (0 : Int32)))))] ++ (n_w D k n_l3 ak ++ ([] ++ n_w D k n_t4 as4))) := hD
  have hP := n_P2 n_t4_n n_t4_c n_l3_c (va_P_perm hP n_perm2)
  have hD := n_D2 n_t4_n (va_D_perm hD n_perm2)
  have hP : va_P D vwCl (([(h0, .inr (4, [.ref q1, .ref q2, .ref q3, .ref q4, .int 0, .int 0, .int 0, .int 1])), (q1, .inl (k 11, ((12 : Nat), .inl (fun _ => (-1 : Int32))))), (q2, .inl (k 11, ((8 : Nat), .inl (fun _ => (0 : Int32))))), (q3, .inl (k 14, ((8 : Nat), .inr (.inr (.inr (.inr ((va_up (va_up (va_up (va_up (va_up (fun _ => none) 0 (some ((n_ap 8 as4 ak) 0))) 1 (some ((n_ap 8 as4 ak) 2))) 2 (some ((n_ap 8 as4 ak) 4))) 3 (some ((n_ap 8 as4 ak) 6))) 4 (some ((n_ap 8 as4 ak) 8)))))))))), (q4, .inl (k 11, ((8 : Nat), .inl (fun _ => (0 : Int32)))))] ++ []) ++ n_w D k n_t5 (n_ap 8 as4 ak)) H := hP
  have hD : va_D A (([(h0, .inr (4, [.ref q1, .ref q2, .ref q3, .ref q4, .int 0, .int 0, .int 0, .int 1])), (q1, .inl (k 11, ((12 : Nat), .inl (fun _ => (-1 : Int32))))), (q2, .inl (k 11, ((8 : Nat), .inl (fun _ => (0 : Int32))))), (q3, .inl (k 14, ((8 : Nat), .inr (.inr (.inr (.inr ((va_up (va_up (va_up (va_up (va_up (fun _ => none) 0 (some ((n_ap 8 as4 ak) 0))) 1 (some ((n_ap 8 as4 ak) 2))) 2 (some ((n_ap 8 as4 ak) 4))) 3 (some ((n_ap 8 as4 ak) 6))) 4 (some ((n_ap 8 as4 ak) 8)))))))))), (q4, .inl (k 11, ((8 : Nat), .inl (fun _ => (0 : Int32)))))] ++ []) ++ n_w D k n_t5 (n_ap 8 as4 ak)) := hD
  generalize n_ap 8 as4 ak = as5 at hP hD
  refine lv_iinc (v := 5) (lv' := [(1, .int 5), (0, .ref h0)]) hx hb dX4_init_71 hl (k := 0) rfl (by decide) (by decide) rfl (fun ls hl => ?_)
  refine lv_goto (tgt := 52) hx hb dX4_init_74 (by decide) ?_
  refine lv_iload_n hx hb dX4_init_52 rfl (lv_at hl 0 rfl) ?_
  refine lv_bipush (v := 8) hx hb dX4_init_53 (by decide) ?_
  refine lv_icmp_ge (tgt := 77) hx hb dX4_init_55 (by decide) (fun h7 => absurd h7 (by decide)) (fun _ => ?_)
  refine lv_aload_n hx hb dX4_init_58 rfl (lv_at hl 1 rfl) ?_
  refine va_get (D := D) (ci := 4) (v := .ref q3) (C := RX4) (T := TX4) (N := 8) hx hb hts uw4 hown hK.1 hP 0 rfl rfl 2 (by decide) (hts _ flX4_20) (fun _ h9 => h9) rfl dX4_init_59 ?_
  refine lv_iload_n hx hb dX4_init_62 rfl (lv_at hl 0 rfl) ?_
  refine va_new (ci := 3) (fs := [.null, .int 0, .int 0, .int 0, .int 0, .int 0, .int 0]) (C := RX3) (T := TX3) (N := 7) hx hb hts uw3 tyX3 tyX3_ok hown (hts _ clX4_18) (hts _ in_X3) (hts _ ni_X3) hK.1 hP hD hS hA rfl (fun j hj => by rcases (show j = 0 ∨ j = 1 ∨ j = 2 ∨ j = 3 ∨ j = 4 ∨ j = 5 ∨ j = 6 by omega) with rfl | rfl | rfl | rfl | rfl | rfl | rfl <;> rfl) (Nat.le_of_ble_eq_true rfl) (Nat.le_of_ble_eq_true rfl) dX4_init_63 (fun q H hP hD hS => ?_)
  have hP : va_P D vwCl ((([(h0, .inr (4, [.ref q1, .ref q2, .ref q3, .ref q4, .int 0, .int 0, .int 0, .int 1])), (q1, .inl (k 11, ((12 : Nat), .inl (fun _ => (-1 : Int32))))), (q2, .inl (k 11, ((8 : Nat), .inl (fun _ => (0 : Int32))))), (q3, .inl (k 14, ((8 : Nat), .inr (.inr (.inr (.inr ((va_up (va_up (va_up (va_up (va_up (fun _ => none) 0 (some (as5 0))) 1 (some (as5 2))) 2 (some (as5 4))) 3 (some (as5 6))) 4 (some (as5 8)))))))))), (q4, .inl (k 11, ((8 : Nat), .inl (fun _ => (0 : Int32)))))] ++ []) ++ n_w D k n_t5 as5) ++ [(q, .inr (3, [.null, .int 0, .int 0, .int 0, .int 0, .int 0, .int 0]))]) H := hP
  have hD : va_D A ((([(h0, .inr (4, [.ref q1, .ref q2, .ref q3, .ref q4, .int 0, .int 0, .int 0, .int 1])), (q1, .inl (k 11, ((12 : Nat), .inl (fun _ => (-1 : Int32))))), (q2, .inl (k 11, ((8 : Nat), .inl (fun _ => (0 : Int32))))), (q3, .inl (k 14, ((8 : Nat), .inr (.inr (.inr (.inr ((va_up (va_up (va_up (va_up (va_up (fun _ => none) 0 (some (as5 0))) 1 (some (as5 2))) 2 (some (as5 4))) 3 (some (as5 6))) 4 (some (as5 8)))))))))), (q4, .inl (k 11, ((8 : Nat), .inl (fun _ => (0 : Int32)))))] ++ []) ++ n_w D k n_t5 as5) ++ [(q, .inr (3, [.null, .int 0, .int 0, .int 0, .int 0, .int 0, .int 0]))]) := hD
  refine W.widen (k := 15) (n := 118) (by omega) (by omega) ?_
  refine lv_dup hx hb dX4_init_66 rfl ?_
  have hFc := va_freeL hD hS hA
  refine va_callv (va_runIN (As := []) (rest := [.ref q, .int 5, .ref q3]) ⟨hx, hb, hml, hown, hts⟩ (n_X3_init l D k q H.size) ⟨va_cnB (ws' := j_gw) 0 hts (j_goodS cd_X3_init) rfl rfl rfl (hK.2.1 _ mlX4_37) (hts _ ni_X3) ⟨by decide, by decide, by decide +kernel⟩ ⟨(Nat.le_of_ble_eq_true rfl), (Nat.le_of_ble_eq_true rfl)⟩, rfl, hts _ im_X3_init⟩ ⟨n_blind, n_pre hK hP hD⟩ rfl rfl hl.1 rfl (lv_room (Nat.le_of_ble_eq_true rfl)) dX4_init_67 ⟨(Nat.le_of_ble_eq_true rfl), (Nat.le_of_ble_eq_true rfl)⟩) hS (fun q _ h => hFc q h) hFc (fun u t H1 locs ht hvm h5 hB hz1 hk1 hS => ?_)
  obtain ⟨ak, rfl, hP1, hD1⟩ := hB
  rw [ht] at hP1
  obtain ⟨hP, hD⟩ := va_joinL hP hD hk1 hFc hP1 hD1
  refine W.widen (k := 16) (n := 126) (by omega) (by omega) ?_
  have hP := va_P_perm hP (n_perm1 (x := [(h0, .inr (4, [.ref q1, .ref q2, .ref q3, .ref q4, .int 0, .int 0, .int 0, .int 1])), (q1, .inl (k 11, ((12 : Nat), .inl (fun _ => (-1 : Int32))))), (q2, .inl (k 11, ((8 : Nat), .inl (fun _ => (0 : Int32))))), (q3, .inl (k 14, ((8 : Nat), .inr (.inr (.inr (.inr ((va_up (va_up (va_up (va_up (va_up (fun _ => none) 0 (some (as5 0))) 1 (some (as5 2))) 2 (some (as5 4))) 3 (some (as5 6))) 4 (some (as5 8)))))))))), (q4, .inl (k 11, ((8 : Nat), .inl (fun _ => (0 : Int32)))))]) (R1 := []) (R2 := n_w D k n_t5 as5) (N := n_w D k n_l3 ak))
  have hD := va_D_perm hD (n_perm1 (x := [(h0, .inr (4, [.ref q1, .ref q2, .ref q3, .ref q4, .int 0, .int 0, .int 0, .int 1])), (q1, .inl (k 11, ((12 : Nat), .inl (fun _ => (-1 : Int32))))), (q2, .inl (k 11, ((8 : Nat), .inl (fun _ => (0 : Int32))))), (q3, .inl (k 14, ((8 : Nat), .inr (.inr (.inr (.inr ((va_up (va_up (va_up (va_up (va_up (fun _ => none) 0 (some (as5 0))) 1 (some (as5 2))) 2 (some (as5 4))) 3 (some (as5 6))) 4 (some (as5 8)))))))))), (q4, .inl (k 11, ((8 : Nat), .inl (fun _ => (0 : Int32)))))]) (R1 := []) (R2 := n_w D k n_t5 as5) (N := n_w D k n_l3 ak))
  refine va_astq (r := (RX3, TX3, 7)) (v := ak 0) (vs := [.ref (ak 1), .int 0, .int 0, .int 0, .int 0, .int 0, .int 0]) hx hb hK.1 hP hD hS 3 3 5 3 rfl rfl rfl rfl (by unfold vp_in; decide) dX4_init_70 (fun H locs hP hD hS => ?_)
  have hP : va_P D vwCl ([(h0, .inr (4, [.ref q1, .ref q2, .ref q3, .ref q4, .int 0, .int 0, .int 0, .int 1])), (q1, .inl (k 11, ((12 : Nat), .inl (fun _ => (-1 : Int32))))), (q2, .inl (k 11, ((8 : Nat), .inl (fun _ => (0 : Int32))))), (q3, .inl (k 14, ((8 : Nat), .inr (.inr (.inr (.inr ((va_up (va_up (va_up (va_up (va_up (va_up (fun _ => none) 0 (some (as5 0))) 1 (some (as5 2))) 2 (some (as5 4))) 3 (some (as5 6))) 4 (some (as5 8))) 5 (some (ak 0)))))))))), (q4, .inl (k 11, ((8 : Nat), .inl (fun _ => (0 : Int32)))))] ++ (n_w D k n_l3 ak ++ ([] ++ n_w D k n_t5 as5))) H := hP
  have hD : va_D A ([(h0, .inr (4, [.ref q1, .ref q2, .ref q3, .ref q4, .int 0, .int 0, .int 0, .int 1])), (q1, .inl (k 11, ((12 : Nat), .inl (fun _ => (-1 : Int32))))), (q2, .inl (k 11, ((8 : Nat), .inl (fun _ => (0 : Int32))))), (q3, .inl (k 14, ((8 : Nat), .inr (.inr (.inr (.inr ((va_up (va_up (va_up (va_up (va_up (va_up (fun _ => none) 0 (some (as5 0))) 1 (some (as5 2))) 2 (some (as5 4))) 3 (some (as5 6))) 4 (some (as5 8))) 5 (some (ak 0)))))))))), (q4, .inl (k 11, ((8 : Nat), .inl (fun _ => (0 : Int32)))))] ++ (n_w D k n_l3 ak ++ ([] ++ n_w D k n_t5 as5))) := hD
  have hP := n_P2 n_t5_n n_t5_c n_l3_c (va_P_perm hP n_perm2)
  have hD := n_D2 n_t5_n (va_D_perm hD n_perm2)
  have hP : va_P D vwCl (([(h0, .inr (4, [.ref q1, .ref q2, .ref q3, .ref q4, .int 0, .int 0, .int 0, .int 1])), (q1, .inl (k 11, ((12 : Nat), .inl (fun _ => (-1 : Int32))))), (q2, .inl (k 11, ((8 : Nat), .inl (fun _ => (0 : Int32))))), (q3, .inl (k 14, ((8 : Nat), .inr (.inr (.inr (.inr ((va_up (va_up (va_up (va_up (va_up (va_up (fun _ => none) 0 (some ((n_ap 10 as5 ak) 0))) 1 (some ((n_ap 10 as5 ak) 2))) 2 (some ((n_ap 10 as5 ak) 4))) 3 (some ((n_ap 10 as5 ak) 6))) 4 (some ((n_ap 10 as5 ak) 8))) 5 (some ((n_ap 10 as5 ak) 10)))))))))), (q4, .inl (k 11, ((8 : Nat), .inl (fun _ => (0 : Int32)))))] ++ []) ++ n_w D k n_t6 (n_ap 10 as5 ak)) H := hP
  have hD : va_D A (([(h0, .inr (4, [.ref q1, .ref q2, .ref q3, .ref q4, .int 0, .int 0, .int 0, .int 1])), (q1, .inl (k 11, ((12 : Nat), .inl (fun _ => (-1 : Int32))))), (q2, .inl (k 11, ((8 : Nat), .inl (fun _ => (0 : Int32))))), (q3, .inl (k 14, ((8 : Nat), .inr (.inr (.inr (.inr ((va_up (va_up (va_up (va_up (va_up (va_up (fun _ => none) 0 (some ((n_ap 10 as5 ak) 0))) 1 (some ((n_ap 10 as5 ak) 2))) 2 (some ((n_ap 10 as5 ak) 4))) 3 (some ((n_ap 10 as5 ak) 6))) 4 (some ((n_ap 10 as5 ak) 8))) 5 (some ((n_ap 10 as5 ak) 10)))))))))), (q4, .inl (k 11, ((8 : Nat), .inl (fun _ => (0 : Int32)))))] ++ []) ++ n_w D k n_t6 (n_ap 10 as5 ak)) := hD
  generalize n_ap 10 as5 ak = as6 at hP hD
  refine lv_iinc (v := 6) (lv' := [(1, .int 6), (0, .ref h0)]) hx hb dX4_init_71 hl (k := 0) rfl (by decide) (by decide) rfl (fun ls hl => ?_)
  refine lv_goto (tgt := 52) hx hb dX4_init_74 (by decide) ?_
  refine lv_iload_n hx hb dX4_init_52 rfl (lv_at hl 0 rfl) ?_
  refine lv_bipush (v := 8) hx hb dX4_init_53 (by decide) ?_
  refine lv_icmp_ge (tgt := 77) hx hb dX4_init_55 (by decide) (fun h7 => absurd h7 (by decide)) (fun _ => ?_)
  refine lv_aload_n hx hb dX4_init_58 rfl (lv_at hl 1 rfl) ?_
  refine va_get (D := D) (ci := 4) (v := .ref q3) (C := RX4) (T := TX4) (N := 8) hx hb hts uw4 hown hK.1 hP 0 rfl rfl 2 (by decide) (hts _ flX4_20) (fun _ h9 => h9) rfl dX4_init_59 ?_
  refine lv_iload_n hx hb dX4_init_62 rfl (lv_at hl 0 rfl) ?_
  refine va_new (ci := 3) (fs := [.null, .int 0, .int 0, .int 0, .int 0, .int 0, .int 0]) (C := RX3) (T := TX3) (N := 7) hx hb hts uw3 tyX3 tyX3_ok hown (hts _ clX4_18) (hts _ in_X3) (hts _ ni_X3) hK.1 hP hD hS hA rfl (fun j hj => by rcases (show j = 0 ∨ j = 1 ∨ j = 2 ∨ j = 3 ∨ j = 4 ∨ j = 5 ∨ j = 6 by omega) with rfl | rfl | rfl | rfl | rfl | rfl | rfl <;> rfl) (Nat.le_of_ble_eq_true rfl) (Nat.le_of_ble_eq_true rfl) dX4_init_63 (fun q H hP hD hS => ?_)
  have hP : va_P D vwCl ((([(h0, .inr (4, [.ref q1, .ref q2, .ref q3, .ref q4, .int 0, .int 0, .int 0, .int 1])), (q1, .inl (k 11, ((12 : Nat), .inl (fun _ => (-1 : Int32))))), (q2, .inl (k 11, ((8 : Nat), .inl (fun _ => (0 : Int32))))), (q3, .inl (k 14, ((8 : Nat), .inr (.inr (.inr (.inr ((va_up (va_up (va_up (va_up (va_up (va_up (fun _ => none) 0 (some (as6 0))) 1 (some (as6 2))) 2 (some (as6 4))) 3 (some (as6 6))) 4 (some (as6 8))) 5 (some (as6 10)))))))))), (q4, .inl (k 11, ((8 : Nat), .inl (fun _ => (0 : Int32)))))] ++ []) ++ n_w D k n_t6 as6) ++ [(q, .inr (3, [.null, .int 0, .int 0, .int 0, .int 0, .int 0, .int 0]))]) H := hP
  have hD : va_D A ((([(h0, .inr (4, [.ref q1, .ref q2, .ref q3, .ref q4, .int 0, .int 0, .int 0, .int 1])), (q1, .inl (k 11, ((12 : Nat), .inl (fun _ => (-1 : Int32))))), (q2, .inl (k 11, ((8 : Nat), .inl (fun _ => (0 : Int32))))), (q3, .inl (k 14, ((8 : Nat), .inr (.inr (.inr (.inr ((va_up (va_up (va_up (va_up (va_up (va_up (fun _ => none) 0 (some (as6 0))) 1 (some (as6 2))) 2 (some (as6 4))) 3 (some (as6 6))) 4 (some (as6 8))) 5 (some (as6 10)))))))))), (q4, .inl (k 11, ((8 : Nat), .inl (fun _ => (0 : Int32)))))] ++ []) ++ n_w D k n_t6 as6) ++ [(q, .inr (3, [.null, .int 0, .int 0, .int 0, .int 0, .int 0, .int 0]))]) := hD
  refine W.widen (k := 17) (n := 133) (by omega) (by omega) ?_
  refine lv_dup hx hb dX4_init_66 rfl ?_
  have hFc := va_freeL hD hS hA
  refine va_callv (va_runIN (As := []) (rest := [.ref q, .int 6, .ref q3]) ⟨hx, hb, hml, hown, hts⟩ (n_X3_init l D k q H.size) ⟨va_cnB (ws' := j_gw) 0 hts (j_goodS cd_X3_init) rfl rfl rfl (hK.2.1 _ mlX4_37) (hts _ ni_X3) ⟨by decide, by decide, by decide +kernel⟩ ⟨(Nat.le_of_ble_eq_true rfl), (Nat.le_of_ble_eq_true rfl)⟩, rfl, hts _ im_X3_init⟩ ⟨n_blind, n_pre hK hP hD⟩ rfl rfl hl.1 rfl (lv_room (Nat.le_of_ble_eq_true rfl)) dX4_init_67 ⟨(Nat.le_of_ble_eq_true rfl), (Nat.le_of_ble_eq_true rfl)⟩) hS (fun q _ h => hFc q h) hFc (fun u t H1 locs ht hvm h5 hB hz1 hk1 hS => ?_)
  obtain ⟨ak, rfl, hP1, hD1⟩ := hB
  rw [ht] at hP1
  obtain ⟨hP, hD⟩ := va_joinL hP hD hk1 hFc hP1 hD1
  refine W.widen (k := 18) (n := 141) (by omega) (by omega) ?_
  have hP := va_P_perm hP (n_perm1 (x := [(h0, .inr (4, [.ref q1, .ref q2, .ref q3, .ref q4, .int 0, .int 0, .int 0, .int 1])), (q1, .inl (k 11, ((12 : Nat), .inl (fun _ => (-1 : Int32))))), (q2, .inl (k 11, ((8 : Nat), .inl (fun _ => (0 : Int32))))), (q3, .inl (k 14, ((8 : Nat), .inr (.inr (.inr (.inr ((va_up (va_up (va_up (va_up (va_up (va_up (fun _ => none) 0 (some (as6 0))) 1 (some (as6 2))) 2 (some (as6 4))) 3 (some (as6 6))) 4 (some (as6 8))) 5 (some (as6 10)))))))))), (q4, .inl (k 11, ((8 : Nat), .inl (fun _ => (0 : Int32)))))]) (R1 := []) (R2 := n_w D k n_t6 as6) (N := n_w D k n_l3 ak))
  have hD := va_D_perm hD (n_perm1 (x := [(h0, .inr (4, [.ref q1, .ref q2, .ref q3, .ref q4, .int 0, .int 0, .int 0, .int 1])), (q1, .inl (k 11, ((12 : Nat), .inl (fun _ => (-1 : Int32))))), (q2, .inl (k 11, ((8 : Nat), .inl (fun _ => (0 : Int32))))), (q3, .inl (k 14, ((8 : Nat), .inr (.inr (.inr (.inr ((va_up (va_up (va_up (va_up (va_up (va_up (fun _ => none) 0 (some (as6 0))) 1 (some (as6 2))) 2 (some (as6 4))) 3 (some (as6 6))) 4 (some (as6 8))) 5 (some (as6 10)))))))))), (q4, .inl (k 11, ((8 : Nat), .inl (fun _ => (0 : Int32)))))]) (R1 := []) (R2 := n_w D k n_t6 as6) (N := n_w D k n_l3 ak))
  refine va_astq (r := (RX3, TX3, 7)) (v := ak 0) (vs := [.ref (ak 1), .int 0, .int 0, .int 0, .int 0, .int 0, .int 0]) hx hb hK.1 hP hD hS 3 3 5 3 rfl rfl rfl rfl (by unfold vp_in; decide) dX4_init_70 (fun H locs hP hD hS => ?_)
  have hP : va_P D vwCl ([(h0, .inr (4, [.ref q1, .ref q2, .ref q3, .ref q4, .int 0, .int 0, .int 0, .int 1])), (q1, .inl (k 11, ((12 : Nat), .inl (fun _ => (-1 : Int32))))), (q2, .inl (k 11, ((8 : Nat), .inl (fun _ => (0 : Int32))))), (q3, .inl (k 14, ((8 : Nat), .inr (.inr (.inr (.inr ((va_up (va_up (va_up (va_up (va_up (va_up (va_up (fun _ => none) 0 (some (as6 0))) 1 (some (as6 2))) 2 (some (as6 4))) 3 (some (as6 6))) 4 (some (as6 8))) 5 (some (as6 10))) 6 (some (ak 0)))))))))), (q4, .inl (k 11, ((8 : Nat), .inl (fun _ => (0 : Int32)))))] ++ (n_w D k n_l3 ak ++ ([] ++ n_w D k n_t6 as6))) H := hP
  have hD : va_D A ([(h0, .inr (4, [.ref q1, .ref q2, .ref q3, .ref q4, .int 0, .int 0, .int 0, .int 1])), (q1, .inl (k 11, ((12 : Nat), .inl (fun _ => (-1 : Int32))))), (q2, .inl (k 11, ((8 : Nat), .inl (fun _ => (0 : Int32))))), (q3, .inl (k 14, ((8 : Nat), .inr (.inr (.inr (.inr ((va_up (va_up (va_up (va_up (va_up (va_up (va_up (fun _ => none) 0 (some (as6 0))) 1 (some (as6 2))) 2 (some (as6 4))) 3 (some (as6 6))) 4 (some (as6 8))) 5 (some (as6 10))) 6 (some (ak 0)))))))))), (q4, .inl (k 11, ((8 : Nat), .inl (fun _ => (0 : Int32)))))] ++ (n_w D k n_l3 ak ++ ([] ++ n_w D k n_t6 as6))) := hD
  have hP := n_P2 n_t6_n n_t6_c n_l3_c (va_P_perm hP n_perm2)
  have hD := n_D2 n_t6_n (va_D_perm hD n_perm2)
  have hP : va_P D vwCl (([(h0, .inr (4, [.ref q1, .ref q2, .ref q3, .ref q4, .int 0, .int 0, .int 0, .int 1])), (q1, .inl (k 11, ((12 : Nat), .inl (fun _ => (-1 : Int32))))), (q2, .inl (k 11, ((8 : Nat), .inl (fun _ => (0 : Int32))))), (q3, .inl (k 14, ((8 : Nat), .inr (.inr (.inr (.inr ((va_up (va_up (va_up (va_up (va_up (va_up (va_up (fun _ => none) 0 (some ((n_ap 12 as6 ak) 0))) 1 (some ((n_ap 12 as6 ak) 2))) 2 (some ((n_ap 12 as6 ak) 4))) 3 (some ((n_ap 12 as6 ak) 6))) 4 (some ((n_ap 12 as6 ak) 8))) 5 (some ((n_ap 12 as6 ak) 10))) 6 (some ((n_ap 12 as6 ak) 12)))))))))), (q4, .inl (k 11, ((8 : Nat), .inl (fun _ => (0 : Int32)))))] ++ []) ++ n_w D k n_t7 (n_ap 12 as6 ak)) H := hP
  have hD : va_D A (([(h0, .inr (4, [.ref q1, .ref q2, .ref q3, .ref q4, .int 0, .int 0, .int 0, .int 1])), (q1, .inl (k 11, ((12 : Nat), .inl (fun _ => (-1 : Int32))))), (q2, .inl (k 11, ((8 : Nat), .inl (fun _ => (0 : Int32))))), (q3, .inl (k 14, ((8 : Nat), .inr (.inr (.inr (.inr ((va_up (va_up (va_up (va_up (va_up (va_up (va_up (fun _ => none) 0 (some ((n_ap 12 as6 ak) 0))) 1 (some ((n_ap 12 as6 ak) 2))) 2 (some ((n_ap 12 as6 ak) 4))) 3 (some ((n_ap 12 as6 ak) 6))) 4 (some ((n_ap 12 as6 ak) 8))) 5 (some ((n_ap 12 as6 ak) 10))) 6 (some ((n_ap 12 as6 ak) 12)))))))))), (q4, .inl (k 11, ((8 : Nat), .inl (fun _ => (0 : Int32)))))] ++ []) ++ n_w D k n_t7 (n_ap 12 as6 ak)) := hD
  generalize n_ap 12 as6 ak = as7 at hP hD
  refine lv_iinc (v := 7) (lv' := [(1, .int 7), (0, .ref h0)]) hx hb dX4_init_71 hl (k := 0) rfl (by decide) (by decide) rfl (fun ls hl => ?_)
  refine lv_goto (tgt := 52) hx hb dX4_init_74 (by decide) ?_
  refine lv_iload_n hx hb dX4_init_52 rfl (lv_at hl 0 rfl) ?_
  refine lv_bipush (v := 8) hx hb dX4_init_53 (by decide) ?_
  refine lv_icmp_ge (tgt := 77) hx hb dX4_init_55 (by decide) (fun h7 => absurd h7 (by decide)) (fun _ => ?_)
  refine lv_aload_n hx hb dX4_init_58 rfl (lv_at hl 1 rfl) ?_
  refine va_get (D := D) (ci := 4) (v := .ref q3) (C := RX4) (T := TX4) (N := 8) hx hb hts uw4 hown hK.1 hP 0 rfl rfl 2 (by decide) (hts _ flX4_20) (fun _ h9 => h9) rfl dX4_init_59 ?_
  refine lv_iload_n hx hb dX4_init_62 rfl (lv_at hl 0 rfl) ?_
  refine va_new (ci := 3) (fs := [.null, .int 0, .int 0, .int 0, .int 0, .int 0, .int 0]) (C := RX3) (T := TX3) (N := 7) hx hb hts uw3 tyX3 tyX3_ok hown (hts _ clX4_18) (hts _ in_X3) (hts _ ni_X3) hK.1 hP hD hS hA rfl (fun j hj => by rcases (show j = 0 ∨ j = 1 ∨ j = 2 ∨ j = 3 ∨ j = 4 ∨ j = 5 ∨ j = 6 by omega) with rfl | rfl | rfl | rfl | rfl | rfl | rfl <;> rfl) (Nat.le_of_ble_eq_true rfl) (Nat.le_of_ble_eq_true rfl) dX4_init_63 (fun q H hP hD hS => ?_)
  have hP : va_P D vwCl ((([(h0, .inr (4, [.ref q1, .ref q2, .ref q3, .ref q4, .int 0, .int 0, .int 0, .int 1])), (q1, .inl (k 11, ((12 : Nat), .inl (fun _ => (-1 : Int32))))), (q2, .inl (k 11, ((8 : Nat), .inl (fun _ => (0 : Int32))))), (q3, .inl (k 14, ((8 : Nat), .inr (.inr (.inr (.inr ((va_up (va_up (va_up (va_up (va_up (va_up (va_up (fun _ => none) 0 (some (as7 0))) 1 (some (as7 2))) 2 (some (as7 4))) 3 (some (as7 6))) 4 (some (as7 8))) 5 (some (as7 10))) 6 (some (as7 12)))))))))), (q4, .inl (k 11, ((8 : Nat), .inl (fun _ => (0 : Int32)))))] ++ []) ++ n_w D k n_t7 as7) ++ [(q, .inr (3, [.null, .int 0, .int 0, .int 0, .int 0, .int 0, .int 0]))]) H := hP
  have hD : va_D A ((([(h0, .inr (4, [.ref q1, .ref q2, .ref q3, .ref q4, .int 0, .int 0, .int 0, .int 1])), (q1, .inl (k 11, ((12 : Nat), .inl (fun _ => (-1 : Int32))))), (q2, .inl (k 11, ((8 : Nat), .inl (fun _ => (0 : Int32))))), (q3, .inl (k 14, ((8 : Nat), .inr (.inr (.inr (.inr ((va_up (va_up (va_up (va_up (va_up (va_up (va_up (fun _ => none) 0 (some (as7 0))) 1 (some (as7 2))) 2 (some (as7 4))) 3 (some (as7 6))) 4 (some (as7 8))) 5 (some (as7 10))) 6 (some (as7 12)))))))))), (q4, .inl (k 11, ((8 : Nat), .inl (fun _ => (0 : Int32)))))] ++ []) ++ n_w D k n_t7 as7) ++ [(q, .inr (3, [.null, .int 0, .int 0, .int 0, .int 0, .int 0, .int 0]))]) := hD
  refine W.widen (k := 19) (n := 148) (by omega) (by omega) ?_
  refine lv_dup hx hb dX4_init_66 rfl ?_
  have hFc := va_freeL hD hS hA
  refine va_callv (va_runIN (As := []) (rest := [.ref q, .int 7, .ref q3]) ⟨hx, hb, hml, hown, hts⟩ (n_X3_init l D k q H.size) ⟨va_cnB (ws' := j_gw) 0 hts (j_goodS cd_X3_init) rfl rfl rfl (hK.2.1 _ mlX4_37) (hts _ ni_X3) ⟨by decide, by decide, by decide +kernel⟩ ⟨(Nat.le_of_ble_eq_true rfl), (Nat.le_of_ble_eq_true rfl)⟩, rfl, hts _ im_X3_init⟩ ⟨n_blind, n_pre hK hP hD⟩ rfl rfl hl.1 rfl (lv_room (Nat.le_of_ble_eq_true rfl)) dX4_init_67 ⟨(Nat.le_of_ble_eq_true rfl), (Nat.le_of_ble_eq_true rfl)⟩) hS (fun q _ h => hFc q h) hFc (fun u t H1 locs ht hvm h5 hB hz1 hk1 hS => ?_)
  obtain ⟨ak, rfl, hP1, hD1⟩ := hB
  rw [ht] at hP1
  obtain ⟨hP, hD⟩ := va_joinL hP hD hk1 hFc hP1 hD1
  refine W.widen (k := 20) (n := 156) (by omega) (by omega) ?_
  have hP := va_P_perm hP (n_perm1 (x := [(h0, .inr (4, [.ref q1, .ref q2, .ref q3, .ref q4, .int 0, .int 0, .int 0, .int 1])), (q1, .inl (k 11, ((12 : Nat), .inl (fun _ => (-1 : Int32))))), (q2, .inl (k 11, ((8 : Nat), .inl (fun _ => (0 : Int32))))), (q3, .inl (k 14, ((8 : Nat), .inr (.inr (.inr (.inr ((va_up (va_up (va_up (va_up (va_up (va_up (va_up (fun _ => none) 0 (some (as7 0))) 1 (some (as7 2))) 2 (some (as7 4))) 3 (some (as7 6))) 4 (some (as7 8))) 5 (some (as7 10))) 6 (some (as7 12)))))))))), (q4, .inl (k 11, ((8 : Nat), .inl (fun _ => (0 : Int32)))))]) (R1 := []) (R2 := n_w D k n_t7 as7) (N := n_w D k n_l3 ak))
  have hD := va_D_perm hD (n_perm1 (x := [(h0, .inr (4, [.ref q1, .ref q2, .ref q3, .ref q4, .int 0, .int 0, .int 0, .int 1])), (q1, .inl (k 11, ((12 : Nat), .inl (fun _ => (-1 : Int32))))), (q2, .inl (k 11, ((8 : Nat), .inl (fun _ => (0 : Int32))))), (q3, .inl (k 14, ((8 : Nat), .inr (.inr (.inr (.inr ((va_up (va_up (va_up (va_up (va_up (va_up (va_up (fun _ => none) 0 (some (as7 0))) 1 (some (as7 2))) 2 (some (as7 4))) 3 (some (as7 6))) 4 (some (as7 8))) 5 (some (as7 10))) 6 (some (as7 12)))))))))), (q4, .inl (k 11, ((8 : Nat), .inl (fun _ => (0 : Int32)))))]) (R1 := []) (R2 := n_w D k n_t7 as7) (N := n_w D k n_l3 ak))
  refine va_astq (r := (RX3, TX3, 7)) (v := ak 0) (vs := [.ref (ak 1), .int 0, .int 0, .int 0, .int 0, .int 0, .int 0]) hx hb hK.1 hP hD hS 3 3 5 3 rfl rfl rfl rfl (by unfold vp_in; decide) dX4_init_70 (fun H locs hP hD hS => ?_)
  have hP : va_P D vwCl ([(h0, .inr (4, [.ref q1, .ref q2, .ref q3, .ref q4, .int 0, .int 0, .int 0, .int 1])), (q1, .inl (k 11, ((12 : Nat), .inl (fun _ => (-1 : Int32))))), (q2, .inl (k 11, ((8 : Nat), .inl (fun _ => (0 : Int32))))), (q3, .inl (k 14, ((8 : Nat), .inr (.inr (.inr (.inr ((va_up (va_up (va_up (va_up (va_up (va_up (va_up (va_up (fun _ => none) 0 (some (as7 0))) 1 (some (as7 2))) 2 (some (as7 4))) 3 (some (as7 6))) 4 (some (as7 8))) 5 (some (as7 10))) 6 (some (as7 12))) 7 (some (ak 0)))))))))), (q4, .inl (k 11, ((8 : Nat), .inl (fun _ => (0 : Int32)))))] ++ (n_w D k n_l3 ak ++ ([] ++ n_w D k n_t7 as7))) H := hP
  have hD : va_D A ([(h0, .inr (4, [.ref q1, .ref q2, .ref q3, .ref q4, .int 0, .int 0, .int 0, .int 1])), (q1, .inl (k 11, ((12 : Nat), .inl (fun _ => (-1 : Int32))))), (q2, .inl (k 11, ((8 : Nat), .inl (fun _ => (0 : Int32))))), (q3, .inl (k 14, ((8 : Nat), .inr (.inr (.inr (.inr ((va_up (va_up (va_up (va_up (va_up (va_up (va_up (va_up (fun _ => none) 0 (some (as7 0))) 1 (some (as7 2))) 2 (some (as7 4))) 3 (some (as7 6))) 4 (some (as7 8))) 5 (some (as7 10))) 6 (some (as7 12))) 7 (some (ak 0)))))))))), (q4, .inl (k 11, ((8 : Nat), .inl (fun _ => (0 : Int32)))))] ++ (n_w D k n_l3 ak ++ ([] ++ n_w D k n_t7 as7))) := hD
  have hP := n_P2 n_t7_n n_t7_c n_l3_c (va_P_perm hP n_perm2)
  have hD := n_D2 n_t7_n (va_D_perm hD n_perm2)
  have hP : va_P D vwCl (([(h0, .inr (4, [.ref q1, .ref q2, .ref q3, .ref q4, .int 0, .int 0, .int 0, .int 1])), (q1, .inl (k 11, ((12 : Nat), .inl (fun _ => (-1 : Int32))))), (q2, .inl (k 11, ((8 : Nat), .inl (fun _ => (0 : Int32))))), (q3, .inl (k 14, ((8 : Nat), .inr (.inr (.inr (.inr ((va_up (va_up (va_up (va_up (va_up (va_up (va_up (va_up (fun _ => none) 0 (some ((n_ap 14 as7 ak) 0))) 1 (some ((n_ap 14 as7 ak) 2))) 2 (some ((n_ap 14 as7 ak) 4))) 3 (some ((n_ap 14 as7 ak) 6))) 4 (some ((n_ap 14 as7 ak) 8))) 5 (some ((n_ap 14 as7 ak) 10))) 6 (some ((n_ap 14 as7 ak) 12))) 7 (some ((n_ap 14 as7 ak) 14)))))))))), (q4, .inl (k 11, ((8 : Nat), .inl (fun _ => (0 : Int32)))))] ++ []) ++ n_w D k n_t8 (n_ap 14 as7 ak)) H := hP
  have hD : va_D A (([(h0, .inr (4, [.ref q1, .ref q2, .ref q3, .ref q4, .int 0, .int 0, .int 0, .int 1])), (q1, .inl (k 11, ((12 : Nat), .inl (fun _ => (-1 : Int32))))), (q2, .inl (k 11, ((8 : Nat), .inl (fun _ => (0 : Int32))))), (q3, .inl (k 14, ((8 : Nat), .inr (.inr (.inr (.inr ((va_up (va_up (va_up (va_up (va_up (va_up (va_up (va_up (fun _ => none) 0 (some ((n_ap 14 as7 ak) 0))) 1 (some ((n_ap 14 as7 ak) 2))) 2 (some ((n_ap 14 as7 ak) 4))) 3 (some ((n_ap 14 as7 ak) 6))) 4 (some ((n_ap 14 as7 ak) 8))) 5 (some ((n_ap 14 as7 ak) 10))) 6 (some ((n_ap 14 as7 ak) 12))) 7 (some ((n_ap 14 as7 ak) 14)))))))))), (q4, .inl (k 11, ((8 : Nat), .inl (fun _ => (0 : Int32)))))] ++ []) ++ n_w D k n_t8 (n_ap 14 as7 ak)) := hD
  generalize n_ap 14 as7 ak = as8 at hP hD
  refine lv_iinc (v := 8) (lv' := [(1, .int 8), (0, .ref h0)]) hx hb dX4_init_71 hl (k := 0) rfl (by decide) (by decide) rfl (fun ls hl => ?_)
  refine lv_goto (tgt := 52) hx hb dX4_init_74 (by decide) ?_
  refine lv_iload_n hx hb dX4_init_52 rfl (lv_at hl 0 rfl) ?_
  refine lv_bipush (v := 8) hx hb dX4_init_53 (by decide) ?_
  refine lv_icmp_ge (tgt := 77) hx hb dX4_init_55 (by decide) (fun _ => ?_) (fun h7 => absurd (by decide) h7)
  exact W.vret hx hb hr (fun t ht hW => ⟨⟨(), rfl, trivial, n_ap 5 (fun i => ([h0, q1, q2, q3, q4] : List Nat).getD i 0) as8, rfl, by rw [ht]; exact n_fin4 hP, n_finD4 hD⟩, hS.F ht⟩) hS.2.2 dX4_init_77
