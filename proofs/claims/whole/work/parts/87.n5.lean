/-! the trials, and the class itself -/

def n_a3 : n_L := [(11, 3)]
theorem n_a3_n : n_a3.length = 1 := by decide +kernel
theorem n_a3_c : n_cl n_a3 = true := by decide +kernel

def n_a7 : n_L := [(11, 7)]
theorem n_a7_n : n_a7.length = 1 := by decide +kernel
theorem n_a7_c : n_cl n_a7 = true := by decide +kernel

def n_X8_23 : n_L := n_l4 ++ n_l2
theorem n_X8_23_n : n_X8_23.length = 23 := by decide +kernel
theorem n_X8_23_c : n_cl n_X8_23 = true := by decide +kernel

def n_X8_24 : n_L := n_X8_23 ++ n_a3
theorem n_X8_24_n : n_X8_24.length = 24 := by decide +kernel
theorem n_X8_24_c : n_cl n_X8_24 = true := by decide +kernel

def n_X8_25 : n_L := n_X8_24 ++ n_a3
theorem n_X8_25_n : n_X8_25.length = 25 := by decide +kernel
theorem n_X8_25_c : n_cl n_X8_25 = true := by decide +kernel

def n_l8 : n_L := (8, 0) :: n_X8_25
theorem n_l8_n : n_l8.length = 26 := by decide +kernel
theorem n_l8_c : n_cl n_l8 = true := by decide +kernel

set_option maxRecDepth 100000 in
set_option maxHeartbeats 4000000 in
theorem n_X8_init (l : Launch) (D : va_G) (k : Nat → ClassId) (h0 sz : Nat) : Met l yX8_init (Cond.code yX8_init cX8_init 1 none :: j_gw) (n_rm 3 25 182) (n_Pre D k h0 sz (.inr (8, [.null, .null, .null, .null]))) (n_Post D k h0 sz (.inr (8, [.null, .null, .null, .null])) n_l8) 25 182 (va_A [(h0, .inr (8, [.null, .null, .null, .null]))] sz) := by
  refine Met.ofW (cc := cX8_init) (maxL := 1) (ret := none) (by decide) rfl ?_
  intro p e s m args below meth c s₁ B hml hv
  obtain ⟨rfl, hsz, hP, hK, hD0⟩ := hv
  have hx := B.exec
  have hb := B.bytes
  have hr := B.returns
  have hts0 := atoms_spec (ws := Cond.code yX8_init cX8_init 1 none :: j_gw) B.pre
  have hts : ∀ w ∈ j_gw, w.before _ s = true := fun w hw => hts0 w (List.mem_cons_of_mem _ hw)
  have hown : s.vm.findClass RX8 = some m.cls := findClass_of_methodNamed B.named
  have hlocks := B.notSynchronized
  have hin : meth.name = "<init>" := (name_of_methodNamed B.named B.method).1
  subst hsz
  have hD := hD0.self (sz := s.heap.size)
  unfold n_Post
  generalize hAe : va_A [(h0, .inr (8, [.null, .null, .null, .null]))] s.heap.size = A at hD ⊢
  have hA : ∀ q : Nat, s.heap.size ≤ q → A q := fun q h => by rw [← hAe]; exact Or.inr h
  have hS : va_S A s.heap s.heap [] := va_S.rf
  have hl := lv_entry ([.ref h0]) (n := 1) (Nat.le_of_ble_eq_true rfl)
  rw [lg_entry_eq]
  generalize (lg_sl ([.ref h0]) ++ List.replicate (1 - (lg_sl ([.ref h0])).length) Slot.unset).toArray = ls at hl ⊢
  have hl : lv_has ls 1 [(0, .ref h0)] := hl
  refine lv_aload_n hx hb dX8_init_0 rfl (lv_at hl 0 rfl) ?_
  refine W.objInit hx hb hown (hts _ mlX8_3) (hts _ im_oi) (hts _ cd_oi) rfl (by rw [hml]; exact hl.1) rfl dX8_init_1 (Nat.le_of_ble_eq_true rfl) (Nat.le_of_ble_eq_true rfl) ?_
  refine W.eq (g2 := F0 m 4 ls []) rfl ?_
  refine lv_aload_n hx hb dX8_init_4 rfl (lv_at hl 0 rfl) ?_
  refine va_new (ci := 4) (fs := [.null, .null, .null, .null, .int 0, .int 0, .int 0, .int 0]) (C := RX4) (T := TX4) (N := 8) hx hb hts uw4 tyX4 tyX4_ok hown (hts _ clX8_9) (hts _ in_X4) (hts _ ni_X4) hK.1 hP hD hS hA rfl (fun j hj => by rcases (show j = 0 ∨ j = 1 ∨ j = 2 ∨ j = 3 ∨ j = 4 ∨ j = 5 ∨ j = 6 ∨ j = 7 by omega) with rfl | rfl | rfl | rfl | rfl | rfl | rfl | rfl <;> rfl) (Nat.le_of_ble_eq_true rfl) (Nat.le_of_ble_eq_true rfl) dX8_init_5 (fun q H hP hD hS => ?_)
  have hP : va_P D vwCl ([(h0, .inr (8, [.null, .null, .null, .null]))] ++ [(q, .inr (4, [.null, .null, .null, .null, .int 0, .int 0, .int 0, .int 0]))]) H := hP
  have hD : va_D A ([(h0, .inr (8, [.null, .null, .null, .null]))] ++ [(q, .inr (4, [.null, .null, .null, .null, .int 0, .int 0, .int 0, .int 0]))]) := hD
  refine W.widen (k := 1) (n := 8) (by omega) (by omega) ?_
  refine lv_dup hx hb dX8_init_8 rfl ?_
  have hFc := va_freeL hD hS hA
  refine va_callv (va_runIN (As := []) (rest := [.ref q, .ref h0]) ⟨hx, hb, hml, hown, hts⟩ (n_X4_init l D k q H.size) ⟨va_cnB (ws' := j_gw) 0 hts (j_goodS cd_X4_init) rfl rfl rfl (hK.2.1 _ mlX8_11) (hts _ ni_X4) ⟨by decide, by decide, by decide +kernel⟩ ⟨(Nat.le_of_ble_eq_true rfl), (Nat.le_of_ble_eq_true rfl)⟩, rfl, hts _ im_X4_init⟩ ⟨n_blind, n_pre hK hP hD⟩ rfl rfl hl.1 rfl (lv_room (Nat.le_of_ble_eq_true rfl)) dX8_init_9 ⟨(Nat.le_of_ble_eq_true rfl), (Nat.le_of_ble_eq_true rfl)⟩) hS (fun q _ h => hFc q h) hFc (fun u t H1 locs ht hvm h5 hB hz1 hk1 hS => ?_)
  obtain ⟨ak, rfl, hP1, hD1⟩ := hB
  rw [ht] at hP1
  obtain ⟨hP, hD⟩ := va_joinL hP hD hk1 hFc hP1 hD1
  refine W.widen (k := 21) (n := 164) (by omega) (by omega) ?_
  refine va_putF (D := D) (ci := 8) (v := .ref (ak 0)) (ty := tyX8 0) (C := RX8) (T := TX8) (N := 4) hx hb hts uw8 tyX8 tyX8_ok nmX8 hown hK.1 hP hD hS 0 rfl rfl 0 (by decide) (hts _ flX8_12) (fun _ h9 => h9) rfl hin rfl (by decide +kernel) rfl rfl (Nat.le_of_ble_eq_true rfl) dX8_init_12 (fun H locs hP hD hS => ?_)
  obtain ⟨ar1, ea⟩ : ∃ z : Nat → Nat, z = ak := ⟨_, rfl⟩
  have hP : va_P D vwCl ((h0, .inr (8, [.ref ((ak) 0), .null, .null, .null])) :: n_w D k n_l4 (ak)) H := hP
  have hD : va_D A ((h0, .inr (8, [.ref ((ak) 0), .null, .null, .null])) :: n_w D k n_l4 (ak)) := hD
  rw [← ea] at hP hD
  clear ea
  refine lv_aload_n hx hb dX8_init_15 rfl (lv_at hl 0 rfl) ?_
  refine va_new (ci := 2) (fs := [.null, .int 0, .int 0, .int 0]) (C := RX2) (T := TX2) (N := 4) hx hb hts uw2 tyX2 tyX2_ok hown (hts _ clX8_18) (hts _ in_X2) (hts _ ni_X2) hK.1 hP hD hS hA rfl (fun j hj => by rcases (show j = 0 ∨ j = 1 ∨ j = 2 ∨ j = 3 by omega) with rfl | rfl | rfl | rfl <;> rfl) (Nat.le_of_ble_eq_true rfl) (Nat.le_of_ble_eq_true rfl) dX8_init_16 (fun q H hP hD hS => ?_)
  have hP : va_P D vwCl (((h0, .inr (8, [.ref (ar1 0), .null, .null, .null])) :: n_w D k n_l4 ar1) ++ [(q, .inr (2, [.null, .int 0, .int 0, .int 0]))]) H := hP
  have hD : va_D A (((h0, .inr (8, [.ref (ar1 0), .null, .null, .null])) :: n_w D k n_l4 ar1) ++ [(q, .inr (2, [.null, .int 0, .int 0, .int 0]))]) := hD
  refine W.widen (k := 22) (n := 168) (by omega) (by omega) ?_
  refine lv_dup hx hb dX8_init_19 rfl ?_
  have hFc := va_freeL hD hS hA
  refine va_callv (va_runIN (As := []) (rest := [.ref q, .ref h0]) ⟨hx, hb, hml, hown, hts⟩ (n_X2_init l D k q H.size) ⟨va_cnB (ws' := j_gw) 0 hts (j_goodS cd_X2_init) rfl rfl rfl (hK.2.1 _ mlX8_20) (hts _ ni_X2) ⟨by decide, by decide, by decide +kernel⟩ ⟨(Nat.le_of_ble_eq_true rfl), (Nat.le_of_ble_eq_true rfl)⟩, rfl, hts _ im_X2_init⟩ ⟨n_blind, n_pre hK hP hD⟩ rfl rfl hl.1 rfl (lv_room (Nat.le_of_ble_eq_true rfl)) dX8_init_20 ⟨(Nat.le_of_ble_eq_true rfl), (Nat.le_of_ble_eq_true rfl)⟩) hS (fun q _ h => hFc q h) hFc (fun u t H1 locs ht hvm h5 hB hz1 hk1 hS => ?_)
  obtain ⟨ak, rfl, hP1, hD1⟩ := hB
  rw [ht] at hP1
  obtain ⟨hP, hD⟩ := va_joinL hP hD hk1 hFc hP1 hD1
  refine W.widen (k := 23) (n := 176) (by omega) (by omega) ?_
  refine va_putF (D := D) (ci := 8) (v := .ref (ak 0)) (ty := tyX8 1) (C := RX8) (T := TX8) (N := 4) hx hb hts uw8 tyX8 tyX8_ok nmX8 hown hK.1 hP hD hS 0 rfl rfl 1 (by decide) (hts _ flX8_21) (fun _ h9 => h9) rfl hin rfl (by decide +kernel) rfl rfl (Nat.le_of_ble_eq_true rfl) dX8_init_23 (fun H locs hP hD hS => ?_)
  have hP : va_P D vwCl ([(h0, .inr (8, [.ref (ar1 0), .ref (ak 0), .null, .null]))] ++ (n_w D k n_l4 ar1 ++ n_w D k n_l2 (ak))) H := hP
  have hD : va_D A ([(h0, .inr (8, [.ref (ar1 0), .ref (ak 0), .null, .null]))] ++ (n_w D k n_l4 ar1 ++ n_w D k n_l2 (ak))) := hD
  have hP := n_P2 n_l4_n n_l4_c n_l2_c hP
  have hD := n_D2 n_l4_n hD
  have hP : va_P D vwCl ((h0, .inr (8, [.ref ((n_ap 21 ar1 (ak)) 0), .ref ((n_ap 21 ar1 (ak)) 21), .null, .null])) :: n_w D k n_X8_23 (n_ap 21 ar1 (ak))) H := hP
  have hD : va_D A ((h0, .inr (8, [.ref ((n_ap 21 ar1 (ak)) 0), .ref ((n_ap 21 ar1 (ak)) 21), .null, .null])) :: n_w D k n_X8_23 (n_ap 21 ar1 (ak))) := hD
  generalize n_ap 21 ar1 (ak) = ar2 at hP hD
  refine lv_aload_n hx hb dX8_init_26 rfl (lv_at hl 0 rfl) ?_
  refine lv_iconst (v := 3) hx hb dX8_init_27 (by decide) ?_
  refine n_newa (atype := .int) (a0 := ((3 : Nat), .inl (fun _ => (0 : Int32)))) (N' := 3) hx hb (hts _ ac_90) (ty := .int) rfl hK.1 hP hD hS hA 0 rfl (fun cA => rfl) (by decide) (by decide) (by decide) (Nat.le_of_ble_eq_true rfl) (Nat.le_of_ble_eq_true rfl) dX8_init_28 (fun q H hP hD hS => ?_)
  refine W.widen (k := 24) (n := 179) (by omega) (by omega) ?_
  refine va_putF (D := D) (ci := 8) (v := .ref q) (ty := tyX8 2) (C := RX8) (T := TX8) (N := 4) hx hb hts uw8 tyX8 tyX8_ok nmX8 hown hK.1 hP hD hS 0 rfl rfl 2 (by decide) (hts _ flX8_25) (fun _ h9 => h9) rfl hin rfl (by decide +kernel) rfl rfl (Nat.le_of_ble_eq_true rfl) dX8_init_30 (fun H locs hP hD hS => ?_)
  have hP : va_P D vwCl ([(h0, .inr (8, [.ref (ar2 0), .ref (ar2 21), .ref q, .null]))] ++ (n_w D k n_X8_23 ar2 ++ n_w D k n_a3 (fun _ => q))) H := hP
  have hD : va_D A ([(h0, .inr (8, [.ref (ar2 0), .ref (ar2 21), .ref q, .null]))] ++ (n_w D k n_X8_23 ar2 ++ n_w D k n_a3 (fun _ => q))) := hD
  have hP := n_P2 n_X8_23_n n_X8_23_c n_a3_c hP
  have hD := n_D2 n_X8_23_n hD
  have hP : va_P D vwCl ((h0, .inr (8, [.ref ((n_ap 23 ar2 (fun _ => q)) 0), .ref ((n_ap 23 ar2 (fun _ => q)) 21), .ref ((n_ap 23 ar2 (fun _ => q)) 23), .null])) :: n_w D k n_X8_24 (n_ap 23 ar2 (fun _ => q))) H := hP
  have hD : va_D A ((h0, .inr (8, [.ref ((n_ap 23 ar2 (fun _ => q)) 0), .ref ((n_ap 23 ar2 (fun _ => q)) 21), .ref ((n_ap 23 ar2 (fun _ => q)) 23), .null])) :: n_w D k n_X8_24 (n_ap 23 ar2 (fun _ => q))) := hD
  generalize n_ap 23 ar2 (fun _ => q) = ar3 at hP hD
  refine lv_aload_n hx hb dX8_init_33 rfl (lv_at hl 0 rfl) ?_
  refine lv_iconst (v := 3) hx hb dX8_init_34 (by decide) ?_
  refine n_newa (atype := .int) (a0 := ((3 : Nat), .inl (fun _ => (0 : Int32)))) (N' := 3) hx hb (hts _ ac_90) (ty := .int) rfl hK.1 hP hD hS hA 0 rfl (fun cA => rfl) (by decide) (by decide) (by decide) (Nat.le_of_ble_eq_true rfl) (Nat.le_of_ble_eq_true rfl) dX8_init_35 (fun q H hP hD hS => ?_)
  refine W.widen (k := 25) (n := 182) (by omega) (by omega) ?_
  refine va_putF (D := D) (ci := 8) (v := .ref q) (ty := tyX8 3) (C := RX8) (T := TX8) (N := 4) hx hb hts uw8 tyX8 tyX8_ok nmX8 hown hK.1 hP hD hS 0 rfl rfl 3 (by decide) (hts _ flX8_29) (fun _ h9 => h9) rfl hin rfl (by decide +kernel) rfl rfl (Nat.le_of_ble_eq_true rfl) dX8_init_37 (fun H locs hP hD hS => ?_)
  have hP : va_P D vwCl ([(h0, .inr (8, [.ref (ar3 0), .ref (ar3 21), .ref (ar3 23), .ref q]))] ++ (n_w D k n_X8_24 ar3 ++ n_w D k n_a3 (fun _ => q))) H := hP
  have hD : va_D A ([(h0, .inr (8, [.ref (ar3 0), .ref (ar3 21), .ref (ar3 23), .ref q]))] ++ (n_w D k n_X8_24 ar3 ++ n_w D k n_a3 (fun _ => q))) := hD
  have hP := n_P2 n_X8_24_n n_X8_24_c n_a3_c hP
  have hD := n_D2 n_X8_24_n hD
  have hP : va_P D vwCl ((h0, .inr (8, [.ref ((n_ap 24 ar3 (fun _ => q)) 0), .ref ((n_ap 24 ar3 (fun _ => q)) 21), .ref ((n_ap 24 ar3 (fun _ => q)) 23), .ref ((n_ap 24 ar3 (fun _ => q)) 24)])) :: n_w D k n_X8_25 (n_ap 24 ar3 (fun _ => q))) H := hP
  have hD : va_D A ((h0, .inr (8, [.ref ((n_ap 24 ar3 (fun _ => q)) 0), .ref ((n_ap 24 ar3 (fun _ => q)) 21), .ref ((n_ap 24 ar3 (fun _ => q)) 23), .ref ((n_ap 24 ar3 (fun _ => q)) 24)])) :: n_w D k n_X8_25 (n_ap 24 ar3 (fun _ => q))) := hD
  generalize n_ap 24 ar3 (fun _ => q) = ar4 at hP hD
  exact W.vret hx hb hr (fun t ht hW => ⟨⟨(), rfl, trivial, n_ap 1 (fun _ => h0) ar4, rfl, by rw [ht]; exact n_P1 (c := 8) n_X8_25_c hP rfl, n_D1 (c := 8) hD⟩, hS.F ht⟩) hS.2.2 dX8_init_40

def n_X9_42 : n_L := n_l4 ++ n_l4
theorem n_X9_42_n : n_X9_42.length = 42 := by decide +kernel
theorem n_X9_42_c : n_cl n_X9_42 = true := by decide +kernel

def n_X9_63 : n_L := n_X9_42 ++ n_l4
theorem n_X9_63_n : n_X9_63.length = 63 := by decide +kernel
theorem n_X9_63_c : n_cl n_X9_63 = true := by decide +kernel

def n_X9_65 : n_L := n_X9_63 ++ n_l2
theorem n_X9_65_n : n_X9_65.length = 65 := by decide +kernel
theorem n_X9_65_c : n_cl n_X9_65 = true := by decide +kernel

def n_X9_68 : n_L := n_X9_65 ++ n_l1
theorem n_X9_68_n : n_X9_68.length = 68 := by decide +kernel
theorem n_X9_68_c : n_cl n_X9_68 = true := by decide +kernel

def n_X9_71 : n_L := n_X9_68 ++ n_l0
theorem n_X9_71_n : n_X9_71.length = 71 := by decide +kernel
theorem n_X9_71_c : n_cl n_X9_71 = true := by decide +kernel

def n_X9_97 : n_L := n_X9_71 ++ n_l8
theorem n_X9_97_n : n_X9_97.length = 97 := by decide +kernel
theorem n_X9_97_c : n_cl n_X9_97 = true := by decide +kernel

def n_X9_100 : n_L := n_X9_97 ++ n_l6
theorem n_X9_100_n : n_X9_100.length = 100 := by decide +kernel
theorem n_X9_100_c : n_cl n_X9_100 = true := by decide +kernel

def n_X9_102 : n_L := n_X9_100 ++ n_l7
theorem n_X9_102_n : n_X9_102.length = 102 := by decide +kernel
theorem n_X9_102_c : n_cl n_X9_102 = true := by decide +kernel

def n_s1 : n_L := n_lE ++ n_l5
theorem n_s1_n : n_s1.length = 2 := by decide +kernel
theorem n_s1_c : n_cl n_s1 = true := by decide +kernel

def n_s2 : n_L := n_s1 ++ n_l5
theorem n_s2_n : n_s2.length = 4 := by decide +kernel
theorem n_s2_c : n_cl n_s2 = true := by decide +kernel

def n_s3 : n_L := n_s2 ++ n_l5
theorem n_s3_n : n_s3.length = 6 := by decide +kernel
theorem n_s3_c : n_cl n_s3 = true := by decide +kernel

def n_s4 : n_L := n_s3 ++ n_l5
theorem n_s4_n : n_s4.length = 8 := by decide +kernel
theorem n_s4_c : n_cl n_s4 = true := by decide +kernel

def n_s5 : n_L := n_s4 ++ n_l5
theorem n_s5_n : n_s5.length = 10 := by decide +kernel
theorem n_s5_c : n_cl n_s5 = true := by decide +kernel

def n_s6 : n_L := n_s5 ++ n_l5
theorem n_s6_n : n_s6.length = 12 := by decide +kernel
theorem n_s6_c : n_cl n_s6 = true := by decide +kernel

def n_s7 : n_L := n_s6 ++ n_l5
theorem n_s7_n : n_s7.length = 14 := by decide +kernel
theorem n_s7_c : n_cl n_s7 = true := by decide +kernel

def n_s8 : n_L := n_s7 ++ n_l5
theorem n_s8_n : n_s8.length = 16 := by decide +kernel
theorem n_s8_c : n_cl n_s8 = true := by decide +kernel

def n_l9 : n_L := j_xs
theorem n_l9_n : n_l9.length = 121 := by decide +kernel
theorem n_l9_c : n_cl n_l9 = true := by decide +kernel

theorem n_perm4 {x0 xS xR : Nat × va_E} {R1 R2 : va_W} : ([x0] ++ (R1 ++ ([xS] ++ (R2 ++ [xR])))).Perm (([x0, xS, xR] ++ R1) ++ R2) := by
  rw [List.append_assoc]
  refine List.Perm.cons x0 ?_
  show (R1 ++ ([xS] ++ (R2 ++ [xR]))).Perm ([xS] ++ ([xR] ++ (R1 ++ R2)))
  refine (List.perm_append_comm_assoc R1 [xS] (R2 ++ [xR])).trans (List.Perm.append_left [xS] ?_)
  rw [← List.append_assoc]
  exact List.perm_append_comm
theorem n_gk9a : ∀ i, i < 102 → n_g n_l9 (1 + i) = n_g n_X9_102 i := fun i hi => of_decide_eq_true (List.all_eq_true.mp (show (List.range 102).all (fun i => decide (n_g n_l9 (1 + i) = n_g n_X9_102 i)) = true by decide +kernel) i (List.mem_range.mpr hi))
theorem n_gk9b : ∀ i, i < 16 → n_g n_l9 (104 + i) = n_g n_s8 i := fun i hi => of_decide_eq_true (List.all_eq_true.mp (show (List.range 16).all (fun i => decide (n_g n_l9 (104 + i) = n_g n_s8 i)) = true by decide +kernel) i (List.mem_range.mpr hi))
theorem n_perm3 {x0 xS xR : Nat × va_E} {R1 : va_W} {D : va_G} {k : Nat → ClassId} {a : Nat → Nat} : (([x0, xS, xR] ++ R1) ++ n_w D k n_lE a).Perm ((([x0] ++ R1) ++ [xS]) ++ [xR]) := by
  have e : n_w D k n_lE a = [] := rfl
  rw [e, List.append_nil, List.append_assoc, List.append_assoc]
  exact List.Perm.cons x0 (List.perm_append_comm (l₁ := [xS, xR]) (l₂ := R1))
def n_a9 (h0 qS qR : Nat) (ar as : Nat → Nat) : Nat → Nat := n_ap 1 (fun _ => h0) (n_ap 102 ar (n_ap 1 (fun _ => qS) (n_ap 16 as (fun _ => qR))))
theorem n_finD9 {A : Nat → Prop} {D : va_G} {k : Nat → ClassId} {h0 qS qR : Nat} {ar9 as : Nat → Nat} (hD : va_D A (([(h0, .inr (9, [.ref (ar9 0), .ref (ar9 21), .ref (ar9 42), .int 0, .ref (ar9 63), .ref (ar9 65), .ref (ar9 68), .ref (ar9 71), .ref (ar9 97), .ref (ar9 100), .ref qS, .ref qR])), (qS, .inl (k 15, ((8 : Nat), .inr (.inr (.inr (.inr ((va_up (va_up (va_up (va_up (va_up (va_up (va_up (va_up (fun _ => none) 0 (some (as 0))) 1 (some (as 2))) 2 (some (as 4))) 3 (some (as 6))) 4 (some (as 8))) 5 (some (as 10))) 6 (some (as 12))) 7 (some (as 14))))))))) ), (qR, .inl (k 11, ((7 : Nat), .inl (fun _ => (0 : Int32)))))] ++ n_w D k n_X9_102 ar9) ++ n_w D k n_s8 as)) : va_D A (n_w D k n_l9 (n_a9 h0 qS qR ar9 as)) := by
  have hD2 := va_D_perm hD (n_perm4 (x0 := (h0, .inr (9, [.ref (ar9 0), .ref (ar9 21), .ref (ar9 42), .int 0, .ref (ar9 63), .ref (ar9 65), .ref (ar9 68), .ref (ar9 71), .ref (ar9 97), .ref (ar9 100), .ref qS, .ref qR]))) (R1 := n_w D k n_X9_102 ar9) (R2 := n_w D k n_s8 as))
  refine va_D_fst ?_ hD2
  unfold n_a9
  rw [n_w_fst, n_l9_n, show (121 : Nat) = 1 + (102 + (1 + (16 + 1))) from rfl, n_ap_fst, n_ap_fst, n_ap_fst, n_ap_fst]
  rw [List.map_append, List.map_append, List.map_append, List.map_append, n_w_fst, n_w_fst, n_X9_102_n, n_s8_n]
  rfl
set_option maxRecDepth 100000 in
theorem n_fin9 {D : va_G} {k : Nat → ClassId} {h0 qS qR : Nat} {ar9 as : Nat → Nat} {H : Heap} (hP : va_P D vwCl (([(h0, .inr (9, [.ref (ar9 0), .ref (ar9 21), .ref (ar9 42), .int 0, .ref (ar9 63), .ref (ar9 65), .ref (ar9 68), .ref (ar9 71), .ref (ar9 97), .ref (ar9 100), .ref qS, .ref qR])), (qS, .inl (k 15, ((8 : Nat), .inr (.inr (.inr (.inr ((va_up (va_up (va_up (va_up (va_up (va_up (va_up (va_up (fun _ => none) 0 (some (as 0))) 1 (some (as 2))) 2 (some (as 4))) 3 (some (as 6))) 4 (some (as 8))) 5 (some (as 10))) 6 (some (as 12))) 7 (some (as 14))))))))) ), (qR, .inl (k 11, ((7 : Nat), .inl (fun _ => (0 : Int32)))))] ++ n_w D k n_X9_102 ar9) ++ n_w D k n_s8 as) H) : va_P D vwCl (n_w D k n_l9 (n_a9 h0 qS qR ar9 as)) H := by
  have h1 : va_P D vwCl (n_w D k n_X9_102 ar9) H := va_P_mem hP (fun _ hx => List.mem_append_left _ (List.mem_append_right _ hx))
  have h2 : va_P D vwCl (n_w D k n_s8 as) H := va_P_mem hP (fun _ hx => List.mem_append_right _ hx)
  refine n_w_iff.mpr (fun i hi => ?_)
  rw [n_l9_n] at hi
  rcases (show i = 0 ∨ (1 ≤ i ∧ i < 103) ∨ i = 103 ∨ (104 ≤ i ∧ i < 120) ∨ i = 120 by omega) with rfl | h | rfl | h | rfl
  · exact hP 0 _ rfl
  · obtain ⟨j, rfl⟩ : ∃ j, i = 1 + j := ⟨i - 1, by omega⟩
    have hj : j < 102 := by omega
    exact n_glue (L := n_l9) (Lk := n_X9_102) (a := n_a9 h0 qS qR ar9 as) (b := 1) n_X9_102_c (fun i hi => n_gk9a i (by rw [n_X9_102_n] at hi; exact hi)) (fun i hi => by rw [n_X9_102_n] at hi; unfold n_a9; rw [n_ap_r, n_ap_l hi]) (by rw [n_X9_102_n]; omega) (n_w_iff.mp h1 j (by rw [n_X9_102_n]; omega))
  · have h3 : H[qS]? = some (vp_cell (k 15) ((8 : Nat), .inr (.inr (.inr (.inr ((va_up (va_up (va_up (va_up (va_up (va_up (va_up (va_up (fun _ => none) 0 (some (as 0))) 1 (some (as 2))) 2 (some (as 4))) 3 (some (as 6))) 4 (some (as 8))) 5 (some (as 10))) 6 (some (as 12))) 7 (some (as 14))))))))) := hP 1 _ rfl
    show H[qS]? = some (vp_cell (k 15) ((8 : Nat), .inr (.inr (.inr (.inr (fun j => some ((n_a9 h0 qS qR ar9 as) (j_ro 15 103 j))))))))
    rw [vp_cell_q] at h3 ⊢
    rw [h3]
    refine congrArg some (arrV_congr (fun j hj => congrArg va_rf (n_up8 as (g := fun j => some ((n_a9 h0 qS qR ar9 as) (j_ro 15 103 j))) rfl (fun i hi => ?_) j hj)))
    show some ((n_a9 h0 qS qR ar9 as) (103 + 1 + 2 * i)) = _
    unfold n_a9
    rw [show 103 + 1 + 2 * i = 1 + (102 + (1 + 2 * i)) by omega, n_ap_r, n_ap_r, n_ap_r, n_ap_l (by omega)]
  · obtain ⟨j, rfl⟩ : ∃ j, i = 104 + j := ⟨i - 104, by omega⟩
    exact n_glue (L := n_l9) (Lk := n_s8) (a := n_a9 h0 qS qR ar9 as) (b := 104) n_s8_c (fun i hi => n_gk9b i (by rw [n_s8_n] at hi; exact hi)) (fun i hi => by
      rw [n_s8_n] at hi
      unfold n_a9
      rw [show 104 + i = 1 + (102 + (1 + i)) by omega, n_ap_r, n_ap_r, n_ap_r, n_ap_l (by omega)]) (by rw [n_s8_n]; omega) (n_w_iff.mp h2 j (by rw [n_s8_n]; omega))
  · exact hP 2 _ rfl

set_option maxRecDepth 100000 in
set_option maxHeartbeats 4000000 in
theorem n_X9_init (l : Launch) (D : va_G) (k : Nat → ClassId) (h0 sz : Nat) : Met l yX9_init (Cond.code yX9_init cX9_init 2 none :: j_gw) (n_rm 4 120 1351) (n_Pre D k h0 sz (.inr (9, [.null, .null, .null, .int 0, .null, .null, .null, .null, .null, .null, .null, .null]))) (n_Post D k h0 sz (.inr (9, [.null, .null, .null, .int 0, .null, .null, .null, .null, .null, .null, .null, .null])) n_l9) 120 1351 (va_A [(h0, .inr (9, [.null, .null, .null, .int 0, .null, .null, .null, .null, .null, .null, .null, .null]))] sz) := by
  refine Met.ofW (cc := cX9_init) (maxL := 2) (ret := none) (by decide) rfl ?_
  intro p e s m args below meth c s₁ B hml hv
  obtain ⟨rfl, hsz, hP, hK, hD0⟩ := hv
  have hx := B.exec
  have hb := B.bytes
  have hr := B.returns
  have hts0 := atoms_spec (ws := Cond.code yX9_init cX9_init 2 none :: j_gw) B.pre
  have hts : ∀ w ∈ j_gw, w.before _ s = true := fun w hw => hts0 w (List.mem_cons_of_mem _ hw)
  have hown : s.vm.findClass RX9 = some m.cls := findClass_of_methodNamed B.named
  have hlocks := B.notSynchronized
  have hin : meth.name = "<init>" := (name_of_methodNamed B.named B.method).1
  subst hsz
  have hD := hD0.self (sz := s.heap.size)
  unfold n_Post
  generalize hAe : va_A [(h0, .inr (9, [.null, .null, .null, .int 0, .null, .null, .null, .null, .null, .null, .null, .null]))] s.heap.size = A at hD ⊢
  have hA : ∀ q : Nat, s.heap.size ≤ q → A q := fun q h => by rw [← hAe]; exact Or.inr h
  have hS : va_S A s.heap s.heap [] := va_S.rf
  have hl := lv_entry ([.ref h0]) (n := 2) (Nat.le_of_ble_eq_true rfl)
  rw [lg_entry_eq]
  generalize (lg_sl ([.ref h0]) ++ List.replicate (2 - (lg_sl ([.ref h0])).length) Slot.unset).toArray = ls at hl ⊢
  have hl : lv_has ls 2 [(0, .ref h0)] := hl
  refine lv_aload_n hx hb dX9_init_0 rfl (lv_at hl 0 rfl) ?_
  refine W.objInit hx hb hown (hts _ mlX9_3) (hts _ im_oi) (hts _ cd_oi) rfl (by rw [hml]; exact hl.1) rfl dX9_init_1 (Nat.le_of_ble_eq_true rfl) (Nat.le_of_ble_eq_true rfl) ?_
  refine W.eq (g2 := F0 m 4 ls []) rfl ?_
  refine lv_aload_n hx hb dX9_init_4 rfl (lv_at hl 0 rfl) ?_
  refine va_new (ci := 4) (fs := [.null, .null, .null, .null, .int 0, .int 0, .int 0, .int 0]) (C := RX4) (T := TX4) (N := 8) hx hb hts uw4 tyX4 tyX4_ok hown (hts _ clX9_9) (hts _ in_X4) (hts _ ni_X4) hK.1 hP hD hS hA rfl (fun j hj => by rcases (show j = 0 ∨ j = 1 ∨ j = 2 ∨ j = 3 ∨ j = 4 ∨ j = 5 ∨ j = 6 ∨ j = 7 by omega) with rfl | rfl | rfl | rfl | rfl | rfl | rfl | rfl <;> rfl) (Nat.le_of_ble_eq_true rfl) (Nat.le_of_ble_eq_true rfl) dX9_init_5 (fun q H hP hD hS => ?_)
  have hP : va_P D vwCl ([(h0, .inr (9, [.null, .null, .null, .int 0, .null, .null, .null, .null, .null, .null, .null, .null]))] ++ [(q, .inr (4, [.null, .null, .null, .null, .int 0, .int 0, .int 0, .int 0]))]) H := hP
  have hD : va_D A ([(h0, .inr (9, [.null, .null, .null, .int 0, .null, .null, .null, .null, .null, .null, .null, .null]))] ++ [(q, .inr (4, [.null, .null, .null, .null, .int 0, .int 0, .int 0, .int 0]))]) := hD
  refine W.widen (k := 1) (n := 8) (by omega) (by omega) ?_
  refine lv_dup hx hb dX9_init_8 rfl ?_
  have hFc := va_freeL hD hS hA
  refine va_callv (va_runIN (As := []) (rest := [.ref q, .ref h0]) ⟨hx, hb, hml, hown, hts⟩ (n_X4_init l D k q H.size) ⟨va_cnB (ws' := j_gw) 0 hts (j_goodS cd_X4_init) rfl rfl rfl (hK.2.1 _ mlX9_11) (hts _ ni_X4) ⟨by decide, by decide, by decide +kernel⟩ ⟨(Nat.le_of_ble_eq_true rfl), (Nat.le_of_ble_eq_true rfl)⟩, rfl, hts _ im_X4_init⟩ ⟨n_blind, n_pre hK hP hD⟩ rfl rfl hl.1 rfl (lv_room (Nat.le_of_ble_eq_true rfl)) dX9_init_9 ⟨(Nat.le_of_ble_eq_true rfl), (Nat.le_of_ble_eq_true rfl)⟩) hS (fun q _ h => hFc q h) hFc (fun u t H1 locs ht hvm h5 hB hz1 hk1 hS => ?_)
  obtain ⟨ak, rfl, hP1, hD1⟩ := hB
  rw [ht] at hP1
  obtain ⟨hP, hD⟩ := va_joinL hP hD hk1 hFc hP1 hD1
  refine W.widen (k := 21) (n := 164) (by omega) (by omega) ?_
  refine va_putF (D := D) (ci := 9) (v := .ref (ak 0)) (ty := tyX9 0) (C := RX9) (T := TX9) (N := 12) hx hb hts uw9 tyX9 tyX9_ok nmX9 hown hK.1 hP hD hS 0 rfl rfl 0 (by decide) (hts _ flX9_12) (fun _ h9 => h9) rfl hin rfl (by decide +kernel) rfl rfl (Nat.le_of_ble_eq_true rfl) dX9_init_12 (fun H locs hP hD hS => ?_)
  obtain ⟨ar1, ea⟩ : ∃ z : Nat → Nat, z = ak := ⟨_, rfl⟩
  have hP : va_P D vwCl ((h0, .inr (9, [.ref ((ak) 0), .null, .null, .int 0, .null, .null, .null, .null, .null, .null, .null, .null])) :: n_w D k n_l4 (ak)) H := hP
  have hD : va_D A ((h0, .inr (9, [.ref ((ak) 0), .null, .null, .int 0, .null, .null, .null, .null, .null, .null, .null, .null])) :: n_w D k n_l4 (ak)) := hD
  rw [← ea] at hP hD
  clear ea
  refine lv_aload_n hx hb dX9_init_15 rfl (lv_at hl 0 rfl) ?_
  refine va_new (ci := 4) (fs := [.null, .null, .null, .null, .int 0, .int 0, .int 0, .int 0]) (C := RX4) (T := TX4) (N := 8) hx hb hts uw4 tyX4 tyX4_ok hown (hts _ clX9_9) (hts _ in_X4) (hts _ ni_X4) hK.1 hP hD hS hA rfl (fun j hj => by rcases (show j = 0 ∨ j = 1 ∨ j = 2 ∨ j = 3 ∨ j = 4 ∨ j = 5 ∨ j = 6 ∨ j = 7 by omega) with rfl | rfl | rfl | rfl | rfl | rfl | rfl | rfl <;> rfl) (Nat.le_of_ble_eq_true rfl) (Nat.le_of_ble_eq_true rfl) dX9_init_16 (fun q H hP hD hS => ?_)
  have hP : va_P D vwCl (((h0, .inr (9, [.ref (ar1 0), .null, .null, .int 0, .null, .null, .null, .null, .null, .null, .null, .null])) :: n_w D k n_l4 ar1) ++ [(q, .inr (4, [.null, .null, .null, .null, .int 0, .int 0, .int 0, .int 0]))]) H := hP
  have hD : va_D A (((h0, .inr (9, [.ref (ar1 0), .null, .null, .int 0, .null, .null, .null, .null, .null, .null, .null, .null])) :: n_w D k n_l4 ar1) ++ [(q, .inr (4, [.null, .null, .null, .null, .int 0, .int 0, .int 0, .int 0]))]) := hD
  refine W.widen (k := 22) (n := 172) (by omega) (by omega) ?_
  refine lv_dup hx hb dX9_init_19 rfl ?_
  have hFc := va_freeL hD hS hA
  refine va_callv (va_runIN (As := []) (rest := [.ref q, .ref h0]) ⟨hx, hb, hml, hown, hts⟩ (n_X4_init l D k q H.size) ⟨va_cnB (ws' := j_gw) 0 hts (j_goodS cd_X4_init) rfl rfl rfl (hK.2.1 _ mlX9_11) (hts _ ni_X4) ⟨by decide, by decide, by decide +kernel⟩ ⟨(Nat.le_of_ble_eq_true rfl), (Nat.le_of_ble_eq_true rfl)⟩, rfl, hts _ im_X4_init⟩ ⟨n_blind, n_pre hK hP hD⟩ rfl rfl hl.1 rfl (lv_room (Nat.le_of_ble_eq_true rfl)) dX9_init_20 ⟨(Nat.le_of_ble_eq_true rfl), (Nat.le_of_ble_eq_true rfl)⟩) hS (fun q _ h => hFc q h) hFc (fun u t H1 locs ht hvm h5 hB hz1 hk1 hS => ?_)
  obtain ⟨ak, rfl, hP1, hD1⟩ := hB
  rw [ht] at hP1
  obtain ⟨hP, hD⟩ := va_joinL hP hD hk1 hFc hP1 hD1
  refine W.widen (k := 42) (n := 328) (by omega) (by omega) ?_
  refine va_putF (D := D) (ci := 9) (v := .ref (ak 0)) (ty := tyX9 1) (C := RX9) (T := TX9) (N := 12) hx hb hts uw9 tyX9 tyX9_ok nmX9 hown hK.1 hP hD hS 0 rfl rfl 1 (by decide) (hts _ flX9_16) (fun _ h9 => h9) rfl hin rfl (by decide +kernel) rfl rfl (Nat.le_of_ble_eq_true rfl) dX9_init_23 (fun H locs hP hD hS => ?_)
  have hP : va_P D vwCl ([(h0, .inr (9, [.ref (ar1 0), .ref (ak 0), .null, .int 0, .null, .null, .null, .null, .null, .null, .null, .null]))] ++ (n_w D k n_l4 ar1 ++ n_w D k n_l4 (ak))) H := hP
  have hD : va_D A ([(h0, .inr (9, [.ref (ar1 0), .ref (ak 0), .null, .int 0, .null, .null, .null, .null, .null, .null, .null, .null]))] ++ (n_w D k n_l4 ar1 ++ n_w D k n_l4 (ak))) := hD
  have hP := n_P2 n_l4_n n_l4_c n_l4_c hP
  have hD := n_D2 n_l4_n hD
  have hP : va_P D vwCl ((h0, .inr (9, [.ref ((n_ap 21 ar1 (ak)) 0), .ref ((n_ap 21 ar1 (ak)) 21), .null, .int 0, .null, .null, .null, .null, .null, .null, .null, .null])) :: n_w D k n_X9_42 (n_ap 21 ar1 (ak))) H := hP
  have hD : va_D A ((h0, .inr (9, [.ref ((n_ap 21 ar1 (ak)) 0), .ref ((n_ap 21 ar1 (ak)) 21), .null, .int 0, .null, .null, .null, .null, .null, .null, .null, .null])) :: n_w D k n_X9_42 (n_ap 21 ar1 (ak))) := hD
  generalize n_ap 21 ar1 (ak) = ar2 at hP hD
  refine lv_aload_n hx hb dX9_init_26 rfl (lv_at hl 0 rfl) ?_
  refine va_new (ci := 4) (fs := [.null, .null, .null, .null, .int 0, .int 0, .int 0, .int 0]) (C := RX4) (T := TX4) (N := 8) hx hb hts uw4 tyX4 tyX4_ok hown (hts _ clX9_9) (hts _ in_X4) (hts _ ni_X4) hK.1 hP hD hS hA rfl (fun j hj => by rcases (show j = 0 ∨ j = 1 ∨ j = 2 ∨ j = 3 ∨ j = 4 ∨ j = 5 ∨ j = 6 ∨ j = 7 by omega) with rfl | rfl | rfl | rfl | rfl | rfl | rfl | rfl <;> rfl) (Nat.le_of_ble_eq_true rfl) (Nat.le_of_ble_eq_true rfl) dX9_init_27 (fun q H hP hD hS => ?_)
  have hP : va_P D vwCl (((h0, .inr (9, [.ref (ar2 0), .ref (ar2 21), .null, .int 0, .null, .null, .null, .null, .null, .null, .null, .null])) :: n_w D k n_X9_42 ar2) ++ [(q, .inr (4, [.null, .null, .null, .null, .int 0, .int 0, .int 0, .int 0]))]) H := hP
  have hD : va_D A (((h0, .inr (9, [.ref (ar2 0), .ref (ar2 21), .null, .int 0, .null, .null, .null, .null, .null, .null, .null, .null])) :: n_w D k n_X9_42 ar2) ++ [(q, .inr (4, [.null, .null, .null, .null, .int 0, .int 0, .int 0, .int 0]))]) := hD
  refine W.widen (k := 43) (n := 336) (by omega) (by omega) ?_
  refine lv_dup hx hb dX9_init_30 rfl ?_
  have hFc := va_freeL hD hS hA
  refine va_callv (va_runIN (As := []) (rest := [.ref q, .ref h0]) ⟨hx, hb, hml, hown, hts⟩ (n_X4_init l D k q H.size) ⟨va_cnB (ws' := j_gw) 0 hts (j_goodS cd_X4_init) rfl rfl rfl (hK.2.1 _ mlX9_11) (hts _ ni_X4) ⟨by decide, by decide, by decide +kernel⟩ ⟨(Nat.le_of_ble_eq_true rfl), (Nat.le_of_ble_eq_true rfl)⟩, rfl, hts _ im_X4_init⟩ ⟨n_blind, n_pre hK hP hD⟩ rfl rfl hl.1 rfl (lv_room (Nat.le_of_ble_eq_true rfl)) dX9_init_31 ⟨(Nat.le_of_ble_eq_true rfl), (Nat.le_of_ble_eq_true rfl)⟩) hS (fun q _ h => hFc q h) hFc (fun u t H1 locs ht hvm h5 hB hz1 hk1 hS => ?_)
  obtain ⟨ak, rfl, hP1, hD1⟩ := hB
  rw [ht] at hP1
  obtain ⟨hP, hD⟩ := va_joinL hP hD hk1 hFc hP1 hD1
  refine W.widen (k := 63) (n := 492) (by omega) (by omega) ?_
  refine va_putF (D := D) (ci := 9) (v := .ref (ak 0)) (ty := tyX9 2) (C := RX9) (T := TX9) (N := 12) hx hb hts uw9 tyX9 tyX9_ok nmX9 hown hK.1 hP hD hS 0 rfl rfl 2 (by decide) (hts _ flX9_19) (fun _ h9 => h9) rfl hin rfl (by decide +kernel) rfl rfl (Nat.le_of_ble_eq_true rfl) dX9_init_34 (fun H locs hP hD hS => ?_)
  have hP : va_P D vwCl ([(h0, .inr (9, [.ref (ar2 0), .ref (ar2 21), .ref (ak 0), .int 0, .null, .null, .null, .null, .null, .null, .null, .null]))] ++ (n_w D k n_X9_42 ar2 ++ n_w D k n_l4 (ak))) H := hP
  have hD : va_D A ([(h0, .inr (9, [.ref (ar2 0), .ref (ar2 21), .ref (ak 0), .int 0, .null, .null, .null, .null, .null, .null, .null, .null]))] ++ (n_w D k n_X9_42 ar2 ++ n_w D k n_l4 (ak))) := hD
  have hP := n_P2 n_X9_42_n n_X9_42_c n_l4_c hP
  have hD := n_D2 n_X9_42_n hD
  have hP : va_P D vwCl ((h0, .inr (9, [.ref ((n_ap 42 ar2 (ak)) 0), .ref ((n_ap 42 ar2 (ak)) 21), .ref ((n_ap 42 ar2 (ak)) 42), .int 0, .null, .null, .null, .null, .null, .null, .null, .null])) :: n_w D k n_X9_63 (n_ap 42 ar2 (ak))) H := hP
  have hD : va_D A ((h0, .inr (9, [.ref ((n_ap 42 ar2 (ak)) 0), .ref ((n_ap 42 ar2 (ak)) 21), .ref ((n_ap 42 ar2 (ak)) 42), .int 0, .null, .null, .null, .null, .null, .null, .null, .null])) :: n_w D k n_X9_63 (n_ap 42 ar2 (ak))) := hD
  generalize n_ap 42 ar2 (ak) = ar3 at hP hD
  refine lv_aload_n hx hb dX9_init_37 rfl (lv_at hl 0 rfl) ?_
  refine va_new (ci := 2) (fs := [.null, .int 0, .int 0, .int 0]) (C := RX2) (T := TX2) (N := 4) hx hb hts uw2 tyX2 tyX2_ok hown (hts _ clX9_22) (hts _ in_X2) (hts _ ni_X2) hK.1 hP hD hS hA rfl (fun j hj => by rcases (show j = 0 ∨ j = 1 ∨ j = 2 ∨ j = 3 by omega) with rfl | rfl | rfl | rfl <;> rfl) (Nat.le_of_ble_eq_true rfl) (Nat.le_of_ble_eq_true rfl) dX9_init_38 (fun q H hP hD hS => ?_)
  have hP : va_P D vwCl (((h0, .inr (9, [.ref (ar3 0), .ref (ar3 21), .ref (ar3 42), .int 0, .null, .null, .null, .null, .null, .null, .null, .null])) :: n_w D k n_X9_63 ar3) ++ [(q, .inr (2, [.null, .int 0, .int 0, .int 0]))]) H := hP
  have hD : va_D A (((h0, .inr (9, [.ref (ar3 0), .ref (ar3 21), .ref (ar3 42), .int 0, .null, .null, .null, .null, .null, .null, .null, .null])) :: n_w D k n_X9_63 ar3) ++ [(q, .inr (2, [.null, .int 0, .int 0, .int 0]))]) := hD
  refine W.widen (k := 64) (n := 496) (by omega) (by omega) ?_
  refine lv_dup hx hb dX9_init_41 rfl ?_
  have hFc := va_freeL hD hS hA
  refine va_callv (va_runIN (As := []) (rest := [.ref q, .ref h0]) ⟨hx, hb, hml, hown, hts⟩ (n_X2_init l D k q H.size) ⟨va_cnB (ws' := j_gw) 0 hts (j_goodS cd_X2_init) rfl rfl rfl (hK.2.1 _ mlX9_24) (hts _ ni_X2) ⟨by decide, by decide, by decide +kernel⟩ ⟨(Nat.le_of_ble_eq_true rfl), (Nat.le_of_ble_eq_true rfl)⟩, rfl, hts _ im_X2_init⟩ ⟨n_blind, n_pre hK hP hD⟩ rfl rfl hl.1 rfl (lv_room (Nat.le_of_ble_eq_true rfl)) dX9_init_42 ⟨(Nat.le_of_ble_eq_true rfl), (Nat.le_of_ble_eq_true rfl)⟩) hS (fun q _ h => hFc q h) hFc (fun u t H1 locs ht hvm h5 hB hz1 hk1 hS => ?_)
  obtain ⟨ak, rfl, hP1, hD1⟩ := hB
  rw [ht] at hP1
  obtain ⟨hP, hD⟩ := va_joinL hP hD hk1 hFc hP1 hD1
  refine W.widen (k := 65) (n := 504) (by omega) (by omega) ?_
  refine va_putF (D := D) (ci := 9) (v := .ref (ak 0)) (ty := tyX9 4) (C := RX9) (T := TX9) (N := 12) hx hb hts uw9 tyX9 tyX9_ok nmX9 hown hK.1 hP hD hS 0 rfl rfl 4 (by decide) (hts _ flX9_25) (fun _ h9 => h9) rfl hin rfl (by decide +kernel) rfl rfl (Nat.le_of_ble_eq_true rfl) dX9_init_45 (fun H locs hP hD hS => ?_)
  have hP : va_P D vwCl ([(h0, .inr (9, [.ref (ar3 0), .ref (ar3 21), .ref (ar3 42), .int 0, .ref (ak 0), .null, .null, .null, .null, .null, .null, .null]))] ++ (n_w D k n_X9_63 ar3 ++ n_w D k n_l2 (ak))) H := hP
  have hD : va_D A ([(h0, .inr (9, [.ref (ar3 0), .ref (ar3 21), .ref (ar3 42), .int 0, .ref (ak 0), .null, .null, .null, .null, .null, .null, .null]))] ++ (n_w D k n_X9_63 ar3 ++ n_w D k n_l2 (ak))) := hD
  have hP := n_P2 n_X9_63_n n_X9_63_c n_l2_c hP
  have hD := n_D2 n_X9_63_n hD
  have hP : va_P D vwCl ((h0, .inr (9, [.ref ((n_ap 63 ar3 (ak)) 0), .ref ((n_ap 63 ar3 (ak)) 21), .ref ((n_ap 63 ar3 (ak)) 42), .int 0, .ref ((n_ap 63 ar3 (ak)) 63), .null, .null, .null, .null, .null, .null, .null])) :: n_w D k n_X9_65 (n_ap 63 ar3 (ak))) H := hP
  have hD : va_D A ((h0, .inr (9, [.ref ((n_ap 63 ar3 (ak)) 0), .ref ((n_ap 63 ar3 (ak)) 21), .ref ((n_ap 63 ar3 (ak)) 42), .int 0, .ref ((n_ap 63 ar3 (ak)) 63), .null, .null, .null, .null, .null, .null, .null])) :: n_w D k n_X9_65 (n_ap 63 ar3 (ak))) := hD
  generalize n_ap 63 ar3 (ak) = ar4 at hP hD
  refine lv_aload_n hx hb dX9_init_48 rfl (lv_at hl 0 rfl) ?_
  refine va_new (ci := 1) (fs := [.null, .int 0, .int 0, .int 0, .int 0]) (C := RX1) (T := TX1) (N := 5) hx hb hts uw1 tyX1 tyX1_ok hown (hts _ clX9_29) (hts _ in_X1) (hts _ ni_X1) hK.1 hP hD hS hA rfl (fun j hj => by rcases (show j = 0 ∨ j = 1 ∨ j = 2 ∨ j = 3 ∨ j = 4 by omega) with rfl | rfl | rfl | rfl | rfl <;> rfl) (Nat.le_of_ble_eq_true rfl) (Nat.le_of_ble_eq_true rfl) dX9_init_49 (fun q H hP hD hS => ?_)
  have hP : va_P D vwCl (((h0, .inr (9, [.ref (ar4 0), .ref (ar4 21), .ref (ar4 42), .int 0, .ref (ar4 63), .null, .null, .null, .null, .null, .null, .null])) :: n_w D k n_X9_65 ar4) ++ [(q, .inr (1, [.null, .int 0, .int 0, .int 0, .int 0]))]) H := hP
  have hD : va_D A (((h0, .inr (9, [.ref (ar4 0), .ref (ar4 21), .ref (ar4 42), .int 0, .ref (ar4 63), .null, .null, .null, .null, .null, .null, .null])) :: n_w D k n_X9_65 ar4) ++ [(q, .inr (1, [.null, .int 0, .int 0, .int 0, .int 0]))]) := hD
  refine W.widen (k := 66) (n := 509) (by omega) (by omega) ?_
  refine lv_dup hx hb dX9_init_52 rfl ?_
  have hFc := va_freeL hD hS hA
  refine va_callv (va_runIN (As := []) (rest := [.ref q, .ref h0]) ⟨hx, hb, hml, hown, hts⟩ (n_X1_init l D k q H.size) ⟨va_cnB (ws' := j_gw) 0 hts (j_goodS cd_X1_init) rfl rfl rfl (hK.2.1 _ mlX9_31) (hts _ ni_X1) ⟨by decide, by decide, by decide +kernel⟩ ⟨(Nat.le_of_ble_eq_true rfl), (Nat.le_of_ble_eq_true rfl)⟩, rfl, hts _ im_X1_init⟩ ⟨n_blind, n_pre hK hP hD⟩ rfl rfl hl.1 rfl (lv_room (Nat.le_of_ble_eq_true rfl)) dX9_init_53 ⟨(Nat.le_of_ble_eq_true rfl), (Nat.le_of_ble_eq_true rfl)⟩) hS (fun q _ h => hFc q h) hFc (fun u t H1 locs ht hvm h5 hB hz1 hk1 hS => ?_)
  obtain ⟨ak, rfl, hP1, hD1⟩ := hB
  rw [ht] at hP1
  obtain ⟨hP, hD⟩ := va_joinL hP hD hk1 hFc hP1 hD1
  refine W.widen (k := 68) (n := 521) (by omega) (by omega) ?_
  refine va_putF (D := D) (ci := 9) (v := .ref (ak 0)) (ty := tyX9 5) (C := RX9) (T := TX9) (N := 12) hx hb hts uw9 tyX9 tyX9_ok nmX9 hown hK.1 hP hD hS 0 rfl rfl 5 (by decide) (hts _ flX9_32) (fun _ h9 => h9) rfl hin rfl (by decide +kernel) rfl rfl (Nat.le_of_ble_eq_true rfl) dX9_init_56 (fun H locs hP hD hS => ?_)
  have hP : va_P D vwCl ([(h0, .inr (9, [.ref (ar4 0), .ref (ar4 21), .ref (ar4 42), .int 0, .ref (ar4 63), .ref (ak 0), .null, .null, .null, .null, .null, .null]))] ++ (n_w D k n_X9_65 ar4 ++ n_w D k n_l1 (ak))) H := hP
  have hD : va_D A ([(h0, .inr (9, [.ref (ar4 0), .ref (ar4 21), .ref (ar4 42), .int 0, .ref (ar4 63), .ref (ak 0), .null, .null, .null, .null, .null, .null]))] ++ (n_w D k n_X9_65 ar4 ++ n_w D k n_l1 (ak))) := hD
  have hP := n_P2 n_X9_65_n n_X9_65_c n_l1_c hP
  have hD := n_D2 n_X9_65_n hD
  have hP : va_P D vwCl ((h0, .inr (9, [.ref ((n_ap 65 ar4 (ak)) 0), .ref ((n_ap 65 ar4 (ak)) 21), .ref ((n_ap 65 ar4 (ak)) 42), .int 0, .ref ((n_ap 65 ar4 (ak)) 63), .ref ((n_ap 65 ar4 (ak)) 65), .null, .null, .null, .null, .null, .null])) :: n_w D k n_X9_68 (n_ap 65 ar4 (ak))) H := hP
  have hD : va_D A ((h0, .inr (9, [.ref ((n_ap 65 ar4 (ak)) 0), .ref ((n_ap 65 ar4 (ak)) 21), .ref ((n_ap 65 ar4 (ak)) 42), .int 0, .ref ((n_ap 65 ar4 (ak)) 63), .ref ((n_ap 65 ar4 (ak)) 65), .null, .null, .null, .null, .null, .null])) :: n_w D k n_X9_68 (n_ap 65 ar4 (ak))) := hD
  generalize n_ap 65 ar4 (ak) = ar5 at hP hD
  refine lv_aload_n hx hb dX9_init_59 rfl (lv_at hl 0 rfl) ?_
  refine va_new (ci := 0) (fs := [.null]) (C := RX0) (T := TX0) (N := 1) hx hb hts uw0 tyX0 tyX0_ok hown (hts _ clX9_36) (hts _ in_X0) (hts _ ni_X0) hK.1 hP hD hS hA rfl (fun j hj => by rcases (show j = 0 by omega) with rfl; rfl) (Nat.le_of_ble_eq_true rfl) (Nat.le_of_ble_eq_true rfl) dX9_init_60 (fun q H hP hD hS => ?_)
  have hP : va_P D vwCl (((h0, .inr (9, [.ref (ar5 0), .ref (ar5 21), .ref (ar5 42), .int 0, .ref (ar5 63), .ref (ar5 65), .null, .null, .null, .null, .null, .null])) :: n_w D k n_X9_68 ar5) ++ [(q, .inr (0, [.null]))]) H := hP
  have hD : va_D A (((h0, .inr (9, [.ref (ar5 0), .ref (ar5 21), .ref (ar5 42), .int 0, .ref (ar5 63), .ref (ar5 65), .null, .null, .null, .null, .null, .null])) :: n_w D k n_X9_68 ar5) ++ [(q, .inr (0, [.null]))]) := hD
  refine W.widen (k := 69) (n := 522) (by omega) (by omega) ?_
  refine lv_dup hx hb dX9_init_63 rfl ?_
  have hFc := va_freeL hD hS hA
  refine va_callv (va_runIN (As := []) (rest := [.ref q, .ref h0]) ⟨hx, hb, hml, hown, hts⟩ (n_X0_init l D k q H.size) ⟨va_cnB (ws' := j_gw) 0 hts (j_goodS cd_X0_init) rfl rfl rfl (hK.2.1 _ mlX9_38) (hts _ ni_X0) ⟨by decide, by decide, by decide +kernel⟩ ⟨(Nat.le_of_ble_eq_true rfl), (Nat.le_of_ble_eq_true rfl)⟩, rfl, hts _ im_X0_init⟩ ⟨n_blind, n_pre hK hP hD⟩ rfl rfl hl.1 rfl (lv_room (Nat.le_of_ble_eq_true rfl)) dX9_init_64 ⟨(Nat.le_of_ble_eq_true rfl), (Nat.le_of_ble_eq_true rfl)⟩) hS (fun q _ h => hFc q h) hFc (fun u t H1 locs ht hvm h5 hB hz1 hk1 hS => ?_)
  obtain ⟨ak, rfl, hP1, hD1⟩ := hB
  rw [ht] at hP1
  obtain ⟨hP, hD⟩ := va_joinL hP hD hk1 hFc hP1 hD1
  refine W.widen (k := 71) (n := 534) (by omega) (by omega) ?_
  refine va_putF (D := D) (ci := 9) (v := .ref (ak 0)) (ty := tyX9 6) (C := RX9) (T := TX9) (N := 12) hx hb hts uw9 tyX9 tyX9_ok nmX9 hown hK.1 hP hD hS 0 rfl rfl 6 (by decide) (hts _ flX9_39) (fun _ h9 => h9) rfl hin rfl (by decide +kernel) rfl rfl (Nat.le_of_ble_eq_true rfl) dX9_init_67 (fun H locs hP hD hS => ?_)
  have hP : va_P D vwCl ([(h0, .inr (9, [.ref (ar5 0), .ref (ar5 21), .ref (ar5 42), .int 0, .ref (ar5 63), .ref (ar5 65), .ref (ak 0), .null, .null, .null, .null, .null]))] ++ (n_w D k n_X9_68 ar5 ++ n_w D k n_l0 (ak))) H := hP
  have hD : va_D A ([(h0, .inr (9, [.ref (ar5 0), .ref (ar5 21), .ref (ar5 42), .int 0, .ref (ar5 63), .ref (ar5 65), .ref (ak 0), .null, .null, .null, .null, .null]))] ++ (n_w D k n_X9_68 ar5 ++ n_w D k n_l0 (ak))) := hD
  have hP := n_P2 n_X9_68_n n_X9_68_c n_l0_c hP
  have hD := n_D2 n_X9_68_n hD
  have hP : va_P D vwCl ((h0, .inr (9, [.ref ((n_ap 68 ar5 (ak)) 0), .ref ((n_ap 68 ar5 (ak)) 21), .ref ((n_ap 68 ar5 (ak)) 42), .int 0, .ref ((n_ap 68 ar5 (ak)) 63), .ref ((n_ap 68 ar5 (ak)) 65), .ref ((n_ap 68 ar5 (ak)) 68), .null, .null, .null, .null, .null])) :: n_w D k n_X9_71 (n_ap 68 ar5 (ak))) H := hP
  have hD : va_D A ((h0, .inr (9, [.ref ((n_ap 68 ar5 (ak)) 0), .ref ((n_ap 68 ar5 (ak)) 21), .ref ((n_ap 68 ar5 (ak)) 42), .int 0, .ref ((n_ap 68 ar5 (ak)) 63), .ref ((n_ap 68 ar5 (ak)) 65), .ref ((n_ap 68 ar5 (ak)) 68), .null, .null, .null, .null, .null])) :: n_w D k n_X9_71 (n_ap 68 ar5 (ak))) := hD
  generalize n_ap 68 ar5 (ak) = ar6 at hP hD
  refine lv_aload_n hx hb dX9_init_70 rfl (lv_at hl 0 rfl) ?_
  refine va_new (ci := 8) (fs := [.null, .null, .null, .null]) (C := RX8) (T := TX8) (N := 4) hx hb hts uw8 tyX8 tyX8_ok hown (hts _ clX9_43) (hts _ in_X8) (hts _ ni_X8) hK.1 hP hD hS hA rfl (fun j hj => by rcases (show j = 0 ∨ j = 1 ∨ j = 2 ∨ j = 3 by omega) with rfl | rfl | rfl | rfl <;> rfl) (Nat.le_of_ble_eq_true rfl) (Nat.le_of_ble_eq_true rfl) dX9_init_71 (fun q H hP hD hS => ?_)
  have hP : va_P D vwCl (((h0, .inr (9, [.ref (ar6 0), .ref (ar6 21), .ref (ar6 42), .int 0, .ref (ar6 63), .ref (ar6 65), .ref (ar6 68), .null, .null, .null, .null, .null])) :: n_w D k n_X9_71 ar6) ++ [(q, .inr (8, [.null, .null, .null, .null]))]) H := hP
  have hD : va_D A (((h0, .inr (9, [.ref (ar6 0), .ref (ar6 21), .ref (ar6 42), .int 0, .ref (ar6 63), .ref (ar6 65), .ref (ar6 68), .null, .null, .null, .null, .null])) :: n_w D k n_X9_71 ar6) ++ [(q, .inr (8, [.null, .null, .null, .null]))]) := hD
  refine W.widen (k := 72) (n := 538) (by omega) (by omega) ?_
  refine lv_dup hx hb dX9_init_74 rfl ?_
  have hFc := va_freeL hD hS hA
  refine va_callv (va_runIN (As := []) (rest := [.ref q, .ref h0]) ⟨hx, hb, hml, hown, hts⟩ (n_X8_init l D k q H.size) ⟨va_cnB (ws' := j_gw) 0 hts (j_goodS cd_X8_init) rfl rfl rfl (hK.2.1 _ mlX9_45) (hts _ ni_X8) ⟨by decide, by decide, by decide +kernel⟩ ⟨(Nat.le_of_ble_eq_true rfl), (Nat.le_of_ble_eq_true rfl)⟩, rfl, hts _ im_X8_init⟩ ⟨n_blind, n_pre hK hP hD⟩ rfl rfl hl.1 rfl (lv_room (Nat.le_of_ble_eq_true rfl)) dX9_init_75 ⟨(Nat.le_of_ble_eq_true rfl), (Nat.le_of_ble_eq_true rfl)⟩) hS (fun q _ h => hFc q h) hFc (fun u t H1 locs ht hvm h5 hB hz1 hk1 hS => ?_)
  obtain ⟨ak, rfl, hP1, hD1⟩ := hB
  rw [ht] at hP1
  obtain ⟨hP, hD⟩ := va_joinL hP hD hk1 hFc hP1 hD1
  refine W.widen (k := 97) (n := 720) (by omega) (by omega) ?_
  refine va_putF (D := D) (ci := 9) (v := .ref (ak 0)) (ty := tyX9 7) (C := RX9) (T := TX9) (N := 12) hx hb hts uw9 tyX9 tyX9_ok nmX9 hown hK.1 hP hD hS 0 rfl rfl 7 (by decide) (hts _ flX9_46) (fun _ h9 => h9) rfl hin rfl (by decide +kernel) rfl rfl (Nat.le_of_ble_eq_true rfl) dX9_init_78 (fun H locs hP hD hS => ?_)
  have hP : va_P D vwCl ([(h0, .inr (9, [.ref (ar6 0), .ref (ar6 21), .ref (ar6 42), .int 0, .ref (ar6 63), .ref (ar6 65), .ref (ar6 68), .ref (ak 0), .null, .null, .null, .null]))] ++ (n_w D k n_X9_71 ar6 ++ n_w D k n_l8 (ak))) H := hP
  have hD : va_D A ([(h0, .inr (9, [.ref (ar6 0), .ref (ar6 21), .ref (ar6 42), .int 0, .ref (ar6 63), .ref (ar6 65), .ref (ar6 68), .ref (ak 0), .null, .null, .null, .null]))] ++ (n_w D k n_X9_71 ar6 ++ n_w D k n_l8 (ak))) := hD
  have hP := n_P2 n_X9_71_n n_X9_71_c n_l8_c hP
  have hD := n_D2 n_X9_71_n hD
  have hP : va_P D vwCl ((h0, .inr (9, [.ref ((n_ap 71 ar6 (ak)) 0), .ref ((n_ap 71 ar6 (ak)) 21), .ref ((n_ap 71 ar6 (ak)) 42), .int 0, .ref ((n_ap 71 ar6 (ak)) 63), .ref ((n_ap 71 ar6 (ak)) 65), .ref ((n_ap 71 ar6 (ak)) 68), .ref ((n_ap 71 ar6 (ak)) 71), .null, .null, .null, .null])) :: n_w D k n_X9_97 (n_ap 71 ar6 (ak))) H := hP
  have hD : va_D A ((h0, .inr (9, [.ref ((n_ap 71 ar6 (ak)) 0), .ref ((n_ap 71 ar6 (ak)) 21), .ref ((n_ap 71 ar6 (ak)) 42), .int 0, .ref ((n_ap 71 ar6 (ak)) 63), .ref ((n_ap 71 ar6 (ak)) 65), .ref ((n_ap 71 ar6 (ak)) 68), .ref ((n_ap 71 ar6 (ak)) 71), .null, .null, .null, .null])) :: n_w D k n_X9_97 (n_ap 71 ar6 (ak))) := hD
  generalize n_ap 71 ar6 (ak) = ar7 at hP hD
  refine lv_aload_n hx hb dX9_init_81 rfl (lv_at hl 0 rfl) ?_
  refine va_new (ci := 6) (fs := [.null, .null]) (C := RX6) (T := TX6) (N := 2) hx hb hts uw6 tyX6 tyX6_ok hown (hts _ clX9_50) (hts _ in_X6) (hts _ ni_X6) hK.1 hP hD hS hA rfl (fun j hj => by rcases (show j = 0 ∨ j = 1 by omega) with rfl | rfl <;> rfl) (Nat.le_of_ble_eq_true rfl) (Nat.le_of_ble_eq_true rfl) dX9_init_82 (fun q H hP hD hS => ?_)
  have hP : va_P D vwCl (((h0, .inr (9, [.ref (ar7 0), .ref (ar7 21), .ref (ar7 42), .int 0, .ref (ar7 63), .ref (ar7 65), .ref (ar7 68), .ref (ar7 71), .null, .null, .null, .null])) :: n_w D k n_X9_97 ar7) ++ [(q, .inr (6, [.null, .null]))]) H := hP
  have hD : va_D A (((h0, .inr (9, [.ref (ar7 0), .ref (ar7 21), .ref (ar7 42), .int 0, .ref (ar7 63), .ref (ar7 65), .ref (ar7 68), .ref (ar7 71), .null, .null, .null, .null])) :: n_w D k n_X9_97 ar7) ++ [(q, .inr (6, [.null, .null]))]) := hD
  refine W.widen (k := 98) (n := 722) (by omega) (by omega) ?_
  refine lv_dup hx hb dX9_init_85 rfl ?_
  have hFc := va_freeL hD hS hA
  refine va_callv (va_runIN (As := []) (rest := [.ref q, .ref h0]) ⟨hx, hb, hml, hown, hts⟩ (n_X6_init l D k q H.size) ⟨va_cnB (ws' := j_gw) 0 hts (j_goodS cd_X6_init) rfl rfl rfl (hK.2.1 _ mlX9_52) (hts _ ni_X6) ⟨by decide, by decide, by decide +kernel⟩ ⟨(Nat.le_of_ble_eq_true rfl), (Nat.le_of_ble_eq_true rfl)⟩, rfl, hts _ im_X6_init⟩ ⟨n_blind, n_pre hK hP hD⟩ rfl rfl hl.1 rfl (lv_room (Nat.le_of_ble_eq_true rfl)) dX9_init_86 ⟨(Nat.le_of_ble_eq_true rfl), (Nat.le_of_ble_eq_true rfl)⟩) hS (fun q _ h => hFc q h) hFc (fun u t H1 locs ht hvm h5 hB hz1 hk1 hS => ?_)
  obtain ⟨ak, rfl, hP1, hD1⟩ := hB
  rw [ht] at hP1
  obtain ⟨hP, hD⟩ := va_joinL hP hD hk1 hFc hP1 hD1
  refine W.widen (k := 100) (n := 738) (by omega) (by omega) ?_
  refine va_putF (D := D) (ci := 9) (v := .ref (ak 0)) (ty := tyX9 8) (C := RX9) (T := TX9) (N := 12) hx hb hts uw9 tyX9 tyX9_ok nmX9 hown hK.1 hP hD hS 0 rfl rfl 8 (by decide) (hts _ flX9_53) (fun _ h9 => h9) rfl hin rfl (by decide +kernel) rfl rfl (Nat.le_of_ble_eq_true rfl) dX9_init_89 (fun H locs hP hD hS => ?_)
  have hP : va_P D vwCl ([(h0, .inr (9, [.ref (ar7 0), .ref (ar7 21), .ref (ar7 42), .int 0, .ref (ar7 63), .ref (ar7 65), .ref (ar7 68), .ref (ar7 71), .ref (ak 0), .null, .null, .null]))] ++ (n_w D k n_X9_97 ar7 ++ n_w D k n_l6 (ak))) H := hP
  have hD : va_D A ([(h0, .inr (9, [.ref (ar7 0), .ref (ar7 21), .ref (ar7 42), .int 0, .ref (ar7 63), .ref (ar7 65), .ref (ar7 68), .ref (ar7 71), .ref (ak 0), .null, .null, .null]))] ++ (n_w D k n_X9_97 ar7 ++ n_w D k n_l6 (ak))) := hD
  have hP := n_P2 n_X9_97_n n_X9_97_c n_l6_c hP
  have hD := n_D2 n_X9_97_n hD
  have hP : va_P D vwCl ((h0, .inr (9, [.ref ((n_ap 97 ar7 (ak)) 0), .ref ((n_ap 97 ar7 (ak)) 21), .ref ((n_ap 97 ar7 (ak)) 42), .int 0, .ref ((n_ap 97 ar7 (ak)) 63), .ref ((n_ap 97 ar7 (ak)) 65), .ref ((n_ap 97 ar7 (ak)) 68), .ref ((n_ap 97 ar7 (ak)) 71), .ref ((n_ap 97 ar7 (ak)) 97), .null, .null, .null])) :: n_w D k n_X9_100 (n_ap 97 ar7 (ak))) H := hP
  have hD : va_D A ((h0, .inr (9, [.ref ((n_ap 97 ar7 (ak)) 0), .ref ((n_ap 97 ar7 (ak)) 21), .ref ((n_ap 97 ar7 (ak)) 42), .int 0, .ref ((n_ap 97 ar7 (ak)) 63), .ref ((n_ap 97 ar7 (ak)) 65), .ref ((n_ap 97 ar7 (ak)) 68), .ref ((n_ap 97 ar7 (ak)) 71), .ref ((n_ap 97 ar7 (ak)) 97), .null, .null, .null])) :: n_w D k n_X9_100 (n_ap 97 ar7 (ak))) := hD
  generalize n_ap 97 ar7 (ak) = ar8 at hP hD
  refine lv_aload_n hx hb dX9_init_92 rfl (lv_at hl 0 rfl) ?_
  refine va_new (ci := 7) (fs := [.null, .int 0, .int 0, .int 0]) (C := RX7) (T := TX7) (N := 4) hx hb hts uw7 tyX7 tyX7_ok hown (hts _ clX9_57) (hts _ in_X7) (hts _ ni_X7) hK.1 hP hD hS hA rfl (fun j hj => by rcases (show j = 0 ∨ j = 1 ∨ j = 2 ∨ j = 3 by omega) with rfl | rfl | rfl | rfl <;> rfl) (Nat.le_of_ble_eq_true rfl) (Nat.le_of_ble_eq_true rfl) dX9_init_93 (fun q H hP hD hS => ?_)
  have hP : va_P D vwCl (((h0, .inr (9, [.ref (ar8 0), .ref (ar8 21), .ref (ar8 42), .int 0, .ref (ar8 63), .ref (ar8 65), .ref (ar8 68), .ref (ar8 71), .ref (ar8 97), .null, .null, .null])) :: n_w D k n_X9_100 ar8) ++ [(q, .inr (7, [.null, .int 0, .int 0, .int 0]))]) H := hP
  have hD : va_D A (((h0, .inr (9, [.ref (ar8 0), .ref (ar8 21), .ref (ar8 42), .int 0, .ref (ar8 63), .ref (ar8 65), .ref (ar8 68), .ref (ar8 71), .ref (ar8 97), .null, .null, .null])) :: n_w D k n_X9_100 ar8) ++ [(q, .inr (7, [.null, .int 0, .int 0, .int 0]))]) := hD
  refine W.widen (k := 101) (n := 742) (by omega) (by omega) ?_
  refine lv_dup hx hb dX9_init_96 rfl ?_
  have hFc := va_freeL hD hS hA
  refine va_callv (va_runIN (As := []) (rest := [.ref q, .ref h0]) ⟨hx, hb, hml, hown, hts⟩ (n_X7_init l D k q H.size) ⟨va_cnB (ws' := j_gw) 0 hts (j_goodS cd_X7_init) rfl rfl rfl (hK.2.1 _ mlX9_59) (hts _ ni_X7) ⟨by decide, by decide, by decide +kernel⟩ ⟨(Nat.le_of_ble_eq_true rfl), (Nat.le_of_ble_eq_true rfl)⟩, rfl, hts _ im_X7_init⟩ ⟨n_blind, n_pre hK hP hD⟩ rfl rfl hl.1 rfl (lv_room (Nat.le_of_ble_eq_true rfl)) dX9_init_97 ⟨(Nat.le_of_ble_eq_true rfl), (Nat.le_of_ble_eq_true rfl)⟩) hS (fun q _ h => hFc q h) hFc (fun u t H1 locs ht hvm h5 hB hz1 hk1 hS => ?_)
  obtain ⟨ak, rfl, hP1, hD1⟩ := hB
  rw [ht] at hP1
  obtain ⟨hP, hD⟩ := va_joinL hP hD hk1 hFc hP1 hD1
  refine W.widen (k := 102) (n := 992) (by omega) (by omega) ?_
  refine va_putF (D := D) (ci := 9) (v := .ref (ak 0)) (ty := tyX9 9) (C := RX9) (T := TX9) (N := 12) hx hb hts uw9 tyX9 tyX9_ok nmX9 hown hK.1 hP hD hS 0 rfl rfl 9 (by decide) (hts _ flX9_60) (fun _ h9 => h9) rfl hin rfl (by decide +kernel) rfl rfl (Nat.le_of_ble_eq_true rfl) dX9_init_100 (fun H locs hP hD hS => ?_)
  have hP : va_P D vwCl ([(h0, .inr (9, [.ref (ar8 0), .ref (ar8 21), .ref (ar8 42), .int 0, .ref (ar8 63), .ref (ar8 65), .ref (ar8 68), .ref (ar8 71), .ref (ar8 97), .ref (ak 0), .null, .null]))] ++ (n_w D k n_X9_100 ar8 ++ n_w D k n_l7 (ak))) H := hP
  have hD : va_D A ([(h0, .inr (9, [.ref (ar8 0), .ref (ar8 21), .ref (ar8 42), .int 0, .ref (ar8 63), .ref (ar8 65), .ref (ar8 68), .ref (ar8 71), .ref (ar8 97), .ref (ak 0), .null, .null]))] ++ (n_w D k n_X9_100 ar8 ++ n_w D k n_l7 (ak))) := hD
  have hP := n_P2 n_X9_100_n n_X9_100_c n_l7_c hP
  have hD := n_D2 n_X9_100_n hD
  have hP : va_P D vwCl ((h0, .inr (9, [.ref ((n_ap 100 ar8 (ak)) 0), .ref ((n_ap 100 ar8 (ak)) 21), .ref ((n_ap 100 ar8 (ak)) 42), .int 0, .ref ((n_ap 100 ar8 (ak)) 63), .ref ((n_ap 100 ar8 (ak)) 65), .ref ((n_ap 100 ar8 (ak)) 68), .ref ((n_ap 100 ar8 (ak)) 71), .ref ((n_ap 100 ar8 (ak)) 97), .ref ((n_ap 100 ar8 (ak)) 100), .null, .null])) :: n_w D k n_X9_102 (n_ap 100 ar8 (ak))) H := hP
  have hD : va_D A ((h0, .inr (9, [.ref ((n_ap 100 ar8 (ak)) 0), .ref ((n_ap 100 ar8 (ak)) 21), .ref ((n_ap 100 ar8 (ak)) 42), .int 0, .ref ((n_ap 100 ar8 (ak)) 63), .ref ((n_ap 100 ar8 (ak)) 65), .ref ((n_ap 100 ar8 (ak)) 68), .ref ((n_ap 100 ar8 (ak)) 71), .ref ((n_ap 100 ar8 (ak)) 97), .ref ((n_ap 100 ar8 (ak)) 100), .null, .null])) :: n_w D k n_X9_102 (n_ap 100 ar8 (ak))) := hD
  generalize n_ap 100 ar8 (ak) = ar9 at hP hD
  refine lv_aload_n hx hb dX9_init_103 rfl (lv_at hl 0 rfl) ?_
  refine lv_bipush (v := 8) hx hb dX9_init_104 (by decide) ?_
  refine n_newq (C := RX5) (N' := 8) hx hb hown (hts _ clX9_64) hK.2.2.2 hK.1 hP hD hS hA 4 rfl (by decide) (by decide) (by decide) (Nat.le_of_ble_eq_true rfl) (Nat.le_of_ble_eq_true rfl) dX9_init_106 (fun qS H hP hD hS => ?_)
  refine W.widen (k := 103) (n := 1000) (by omega) (by omega) ?_
  refine va_putF (D := D) (ci := 9) (v := .ref qS) (ty := tyX9 10) (C := RX9) (T := TX9) (N := 12) hx hb hts uw9 tyX9 tyX9_ok nmX9 hown hK.1 hP hD hS 0 rfl rfl 10 (by decide) (hts _ flX9_66) (fun _ h9 => h9) rfl hin rfl (by decide +kernel) rfl rfl (Nat.le_of_ble_eq_true rfl) dX9_init_109 (fun H locs hP hD hS => ?_)
  have hP : va_P D vwCl (([(h0, .inr (9, [.ref (ar9 0), .ref (ar9 21), .ref (ar9 42), .int 0, .ref (ar9 63), .ref (ar9 65), .ref (ar9 68), .ref (ar9 71), .ref (ar9 97), .ref (ar9 100), .ref qS, .null]))] ++ n_w D k n_X9_102 ar9) ++ [(qS, .inl (k 15, ((8 : Nat), .inr (.inr (.inr (.inr (fun _ => none)))))))]) H := hP
  have hD : va_D A (([(h0, .inr (9, [.ref (ar9 0), .ref (ar9 21), .ref (ar9 42), .int 0, .ref (ar9 63), .ref (ar9 65), .ref (ar9 68), .ref (ar9 71), .ref (ar9 97), .ref (ar9 100), .ref qS, .null]))] ++ n_w D k n_X9_102 ar9) ++ [(qS, .inl (k 15, ((8 : Nat), .inr (.inr (.inr (.inr (fun _ => none)))))))]) := hD
  refine lv_aload_n hx hb dX9_init_112 rfl (lv_at hl 0 rfl) ?_
  refine lv_bipush (v := 7) hx hb dX9_init_113 (by decide) ?_
  refine n_newa (atype := .int) (a0 := ((7 : Nat), .inl (fun _ => (0 : Int32)))) (N' := 7) hx hb (hts _ ac_90) (ty := .int) rfl hK.1 hP hD hS hA 0 rfl (fun cA => rfl) (by decide) (by decide) (by decide) (Nat.le_of_ble_eq_true rfl) (Nat.le_of_ble_eq_true rfl) dX9_init_115 (fun qR H hP hD hS => ?_)
  refine W.widen (k := 104) (n := 1007) (by omega) (by omega) ?_
  refine va_putF (D := D) (ci := 9) (v := .ref qR) (ty := tyX9 11) (C := RX9) (T := TX9) (N := 12) hx hb hts uw9 tyX9 tyX9_ok nmX9 hown hK.1 hP hD hS 0 rfl rfl 11 (by decide) (hts _ flX9_70) (fun _ h9 => h9) rfl hin rfl (by decide +kernel) rfl rfl (Nat.le_of_ble_eq_true rfl) dX9_init_117 (fun H locs hP hD hS => ?_)
  have hP : va_P D vwCl ((([(h0, .inr (9, [.ref (ar9 0), .ref (ar9 21), .ref (ar9 42), .int 0, .ref (ar9 63), .ref (ar9 65), .ref (ar9 68), .ref (ar9 71), .ref (ar9 97), .ref (ar9 100), .ref qS, .ref qR]))] ++ n_w D k n_X9_102 ar9) ++ [(qS, .inl (k 15, ((8 : Nat), .inr (.inr (.inr (.inr (fun _ => none)))))))]) ++ [(qR, .inl (k 11, ((7 : Nat), .inl (fun _ => (0 : Int32)))))]) H := hP
  have hD : va_D A ((([(h0, .inr (9, [.ref (ar9 0), .ref (ar9 21), .ref (ar9 42), .int 0, .ref (ar9 63), .ref (ar9 65), .ref (ar9 68), .ref (ar9 71), .ref (ar9 97), .ref (ar9 100), .ref qS, .ref qR]))] ++ n_w D k n_X9_102 ar9) ++ [(qS, .inl (k 15, ((8 : Nat), .inr (.inr (.inr (.inr (fun _ => none)))))))]) ++ [(qR, .inl (k 11, ((7 : Nat), .inl (fun _ => (0 : Int32)))))]) := hD
  obtain ⟨as0, e0⟩ : ∃ z : Nat → Nat, z = fun _ => 0 := ⟨_, rfl⟩
  have hP : va_P D vwCl (([(h0, .inr (9, [.ref (ar9 0), .ref (ar9 21), .ref (ar9 42), .int 0, .ref (ar9 63), .ref (ar9 65), .ref (ar9 68), .ref (ar9 71), .ref (ar9 97), .ref (ar9 100), .ref qS, .ref qR])), (qS, .inl (k 15, ((8 : Nat), .inr (.inr (.inr (.inr ((fun _ => none))))))) ), (qR, .inl (k 11, ((7 : Nat), .inl (fun _ => (0 : Int32)))))] ++ n_w D k n_X9_102 ar9) ++ n_w D k n_lE as0) H := va_P_perm hP n_perm3
  have hD : va_D A (([(h0, .inr (9, [.ref (ar9 0), .ref (ar9 21), .ref (ar9 42), .int 0, .ref (ar9 63), .ref (ar9 65), .ref (ar9 68), .ref (ar9 71), .ref (ar9 97), .ref (ar9 100), .ref qS, .ref qR])), (qS, .inl (k 15, ((8 : Nat), .inr (.inr (.inr (.inr ((fun _ => none))))))) ), (qR, .inl (k 11, ((7 : Nat), .inl (fun _ => (0 : Int32)))))] ++ n_w D k n_X9_102 ar9) ++ n_w D k n_lE as0) := va_D_perm hD n_perm3
  refine lv_iconst (v := 0) hx hb dX9_init_120 (by decide) ?_
  refine lv_istore_n (lv' := [(1, .int 0), (0, .ref h0)]) hx hb dX9_init_121 rfl hl (by decide) rfl (fun ls hl => ?_)
  refine lv_iload_n hx hb dX9_init_122 rfl (lv_at hl 0 rfl) ?_
  refine lv_bipush (v := 8) hx hb dX9_init_123 (by decide) ?_
  refine lv_icmp_ge (tgt := 147) hx hb dX9_init_125 (by decide) (fun h7 => absurd h7 (by decide)) (fun _ => ?_)
  refine lv_aload_n hx hb dX9_init_128 rfl (lv_at hl 1 rfl) ?_
  refine va_get (D := D) (ci := 9) (v := .ref qS) (C := RX9) (T := TX9) (N := 12) hx hb hts uw9 hown hK.1 hP 0 rfl rfl 10 (by decide) (hts _ flX9_66) (fun _ h9 => h9) rfl dX9_init_129 ?_
  refine lv_iload_n hx hb dX9_init_132 rfl (lv_at hl 0 rfl) ?_
  refine va_new (ci := 5) (fs := [.null, .int 0, .int 0]) (C := RX5) (T := TX5) (N := 3) hx hb hts uw5 tyX5 tyX5_ok hown (hts _ clX9_64) (hts _ in_X5) (hts _ ni_X5) hK.1 hP hD hS hA rfl (fun j hj => by rcases (show j = 0 ∨ j = 1 ∨ j = 2 by omega) with rfl | rfl | rfl <;> rfl) (Nat.le_of_ble_eq_true rfl) (Nat.le_of_ble_eq_true rfl) dX9_init_133 (fun q H hP hD hS => ?_)
  have hP : va_P D vwCl ((([(h0, .inr (9, [.ref (ar9 0), .ref (ar9 21), .ref (ar9 42), .int 0, .ref (ar9 63), .ref (ar9 65), .ref (ar9 68), .ref (ar9 71), .ref (ar9 97), .ref (ar9 100), .ref qS, .ref qR])), (qS, .inl (k 15, ((8 : Nat), .inr (.inr (.inr (.inr ((fun _ => none))))))) ), (qR, .inl (k 11, ((7 : Nat), .inl (fun _ => (0 : Int32)))))] ++ n_w D k n_X9_102 ar9) ++ n_w D k n_lE as0) ++ [(q, .inr (5, [.null, .int 0, .int 0]))]) H := hP
  have hD : va_D A ((([(h0, .inr (9, [.ref (ar9 0), .ref (ar9 21), .ref (ar9 42), .int 0, .ref (ar9 63), .ref (ar9 65), .ref (ar9 68), .ref (ar9 71), .ref (ar9 97), .ref (ar9 100), .ref qS, .ref qR])), (qS, .inl (k 15, ((8 : Nat), .inr (.inr (.inr (.inr ((fun _ => none))))))) ), (qR, .inl (k 11, ((7 : Nat), .inl (fun _ => (0 : Int32)))))] ++ n_w D k n_X9_102 ar9) ++ n_w D k n_lE as0) ++ [(q, .inr (5, [.null, .int 0, .int 0]))]) := hD
  refine W.widen (k := 105) (n := 1010) (by omega) (by omega) ?_
  refine lv_dup hx hb dX9_init_136 rfl ?_
  have hFc := va_freeL hD hS hA
  refine va_callv (va_runIN (As := []) (rest := [.ref q, .int 0, .ref qS]) ⟨hx, hb, hml, hown, hts⟩ (n_X5_init l D k q H.size) ⟨va_cnB (ws' := j_gw) 0 hts (j_goodS cd_X5_init) rfl rfl rfl (hK.2.1 _ mlX9_74) (hts _ ni_X5) ⟨by decide, by decide, by decide +kernel⟩ ⟨(Nat.le_of_ble_eq_true rfl), (Nat.le_of_ble_eq_true rfl)⟩, rfl, hts _ im_X5_init⟩ ⟨n_blind, n_pre hK hP hD⟩ rfl rfl hl.1 rfl (lv_room (Nat.le_of_ble_eq_true rfl)) dX9_init_137 ⟨(Nat.le_of_ble_eq_true rfl), (Nat.le_of_ble_eq_true rfl)⟩) hS (fun q _ h => hFc q h) hFc (fun u t H1 locs ht hvm h5 hB hz1 hk1 hS => ?_)
  obtain ⟨ak, rfl, hP1, hD1⟩ := hB
  rw [ht] at hP1
  obtain ⟨hP, hD⟩ := va_joinL hP hD hk1 hFc hP1 hD1
  refine W.widen (k := 106) (n := 1050) (by omega) (by omega) ?_
  have hP := va_P_perm hP (n_perm1 (x := [(h0, .inr (9, [.ref (ar9 0), .ref (ar9 21), .ref (ar9 42), .int 0, .ref (ar9 63), .ref (ar9 65), .ref (ar9 68), .ref (ar9 71), .ref (ar9 97), .ref (ar9 100), .ref qS, .ref qR])), (qS, .inl (k 15, ((8 : Nat), .inr (.inr (.inr (.inr ((fun _ => none))))))) ), (qR, .inl (k 11, ((7 : Nat), .inl (fun _ => (0 : Int32)))))]) (R1 := n_w D k n_X9_102 ar9) (R2 := n_w D k n_lE as0) (N := n_w D k n_l5 ak))
  have hD := va_D_perm hD (n_perm1 (x := [(h0, .inr (9, [.ref (ar9 0), .ref (ar9 21), .ref (ar9 42), .int 0, .ref (ar9 63), .ref (ar9 65), .ref (ar9 68), .ref (ar9 71), .ref (ar9 97), .ref (ar9 100), .ref qS, .ref qR])), (qS, .inl (k 15, ((8 : Nat), .inr (.inr (.inr (.inr ((fun _ => none))))))) ), (qR, .inl (k 11, ((7 : Nat), .inl (fun _ => (0 : Int32)))))]) (R1 := n_w D k n_X9_102 ar9) (R2 := n_w D k n_lE as0) (N := n_w D k n_l5 ak))
  refine va_astq (r := (RX5, TX5, 3)) (v := ak 0) (vs := [.ref (ak 1), .int (-1), .int 0]) hx hb hK.1 hP hD hS 1 4 3 5 rfl rfl rfl rfl (by unfold vp_in; decide) dX9_init_140 (fun H locs hP hD hS => ?_)
  have hP : va_P D vwCl ([(h0, .inr (9, [.ref (ar9 0), .ref (ar9 21), .ref (ar9 42), .int 0, .ref (ar9 63), .ref (ar9 65), .ref (ar9 68), .ref (ar9 71), .ref (ar9 97), .ref (ar9 100), .ref qS, .ref qR])), (qS, .inl (k 15, ((8 : Nat), .inr (.inr (.inr (.inr ((va_up (fun _ => none) 0 (some (ak 0))))))))) ), (qR, .inl (k 11, ((7 : Nat), .inl (fun _ => (0 : Int32)))))] ++ (n_w D k n_l5 ak ++ (n_w D k n_X9_102 ar9 ++ n_w D k n_lE as0))) H := hP
  have hD : va_D A ([(h0, .inr (9, [.ref (ar9 0), .ref (ar9 21), .ref (ar9 42), .int 0, .ref (ar9 63), .ref (ar9 65), .ref (ar9 68), .ref (ar9 71), .ref (ar9 97), .ref (ar9 100), .ref qS, .ref qR])), (qS, .inl (k 15, ((8 : Nat), .inr (.inr (.inr (.inr ((va_up (fun _ => none) 0 (some (ak 0))))))))) ), (qR, .inl (k 11, ((7 : Nat), .inl (fun _ => (0 : Int32)))))] ++ (n_w D k n_l5 ak ++ (n_w D k n_X9_102 ar9 ++ n_w D k n_lE as0))) := hD
  have hP := n_P2 n_lE_n n_lE_c n_l5_c (va_P_perm hP n_perm2)
  have hD := n_D2 n_lE_n (va_D_perm hD n_perm2)
  have hP : va_P D vwCl (([(h0, .inr (9, [.ref (ar9 0), .ref (ar9 21), .ref (ar9 42), .int 0, .ref (ar9 63), .ref (ar9 65), .ref (ar9 68), .ref (ar9 71), .ref (ar9 97), .ref (ar9 100), .ref qS, .ref qR])), (qS, .inl (k 15, ((8 : Nat), .inr (.inr (.inr (.inr ((va_up (fun _ => none) 0 (some ((n_ap 0 as0 ak) 0))))))))) ), (qR, .inl (k 11, ((7 : Nat), .inl (fun _ => (0 : Int32)))))] ++ n_w D k n_X9_102 ar9) ++ n_w D k n_s1 (n_ap 0 as0 ak)) H := hP
  have hD : va_D A (([(h0, .inr (9, [.ref (ar9 0), .ref (ar9 21), .ref (ar9 42), .int 0, .ref (ar9 63), .ref (ar9 65), .ref (ar9 68), .ref (ar9 71), .ref (ar9 97), .ref (ar9 100), .ref qS, .ref qR])), (qS, .inl (k 15, ((8 : Nat), .inr (.inr (.inr (.inr ((va_up (fun _ => none) 0 (some ((n_ap 0 as0 ak) 0))))))))) ), (qR, .inl (k 11, ((7 : Nat), .inl (fun _ => (0 : Int32)))))] ++ n_w D k n_X9_102 ar9) ++ n_w D k n_s1 (n_ap 0 as0 ak)) := hD
  generalize n_ap 0 as0 ak = as1 at hP hD
  refine lv_iinc (v := 1) (lv' := [(1, .int 1), (0, .ref h0)]) hx hb dX9_init_141 hl (k := 0) rfl (by decide) (by decide) rfl (fun ls hl => ?_)
  refine lv_goto (tgt := 122) hx hb dX9_init_144 (by decide) ?_
  refine lv_iload_n hx hb dX9_init_122 rfl (lv_at hl 0 rfl) ?_
  refine lv_bipush (v := 8) hx hb dX9_init_123 (by decide) ?_
  refine lv_icmp_ge (tgt := 147) hx hb dX9_init_125 (by decide) (fun h7 => absurd h7 (by decide)) (fun _ => ?_)
  refine lv_aload_n hx hb dX9_init_128 rfl (lv_at hl 1 rfl) ?_
  refine va_get (D := D) (ci := 9) (v := .ref qS) (C := RX9) (T := TX9) (N := 12) hx hb hts uw9 hown hK.1 hP 0 rfl rfl 10 (by decide) (hts _ flX9_66) (fun _ h9 => h9) rfl dX9_init_129 ?_
  refine lv_iload_n hx hb dX9_init_132 rfl (lv_at hl 0 rfl) ?_
  refine va_new (ci := 5) (fs := [.null, .int 0, .int 0]) (C := RX5) (T := TX5) (N := 3) hx hb hts uw5 tyX5 tyX5_ok hown (hts _ clX9_64) (hts _ in_X5) (hts _ ni_X5) hK.1 hP hD hS hA rfl (fun j hj => by rcases (show j = 0 ∨ j = 1 ∨ j = 2 by omega) with rfl | rfl | rfl <;> rfl) (Nat.le_of_ble_eq_true rfl) (Nat.le_of_ble_eq_true rfl) dX9_init_133 (fun q H hP hD hS => ?_)
  have hP : va_P D vwCl ((([(h0, .inr (9, [.ref (ar9 0), .ref (ar9 21), .ref (ar9 42), .int 0, .ref (ar9 63), .ref (ar9 65), .ref (ar9 68), .ref (ar9 71), .ref (ar9 97), .ref (ar9 100), .ref qS, .ref qR])), (qS, .inl (k 15, ((8 : Nat), .inr (.inr (.inr (.inr ((va_up (fun _ => none) 0 (some (as1 0))))))))) ), (qR, .inl (k 11, ((7 : Nat), .inl (fun _ => (0 : Int32)))))] ++ n_w D k n_X9_102 ar9) ++ n_w D k n_s1 as1) ++ [(q, .inr (5, [.null, .int 0, .int 0]))]) H := hP
  have hD : va_D A ((([(h0, .inr (9, [.ref (ar9 0), .ref (ar9 21), .ref (ar9 42), .int 0, .ref (ar9 63), .ref (ar9 65), .ref (ar9 68), .ref (ar9 71), .ref (ar9 97), .ref (ar9 100), .ref qS, .ref qR])), (qS, .inl (k 15, ((8 : Nat), .inr (.inr (.inr (.inr ((va_up (fun _ => none) 0 (some (as1 0))))))))) ), (qR, .inl (k 11, ((7 : Nat), .inl (fun _ => (0 : Int32)))))] ++ n_w D k n_X9_102 ar9) ++ n_w D k n_s1 as1) ++ [(q, .inr (5, [.null, .int 0, .int 0]))]) := hD
  refine W.widen (k := 107) (n := 1053) (by omega) (by omega) ?_
  refine lv_dup hx hb dX9_init_136 rfl ?_
  have hFc := va_freeL hD hS hA
  refine va_callv (va_runIN (As := []) (rest := [.ref q, .int 1, .ref qS]) ⟨hx, hb, hml, hown, hts⟩ (n_X5_init l D k q H.size) ⟨va_cnB (ws' := j_gw) 0 hts (j_goodS cd_X5_init) rfl rfl rfl (hK.2.1 _ mlX9_74) (hts _ ni_X5) ⟨by decide, by decide, by decide +kernel⟩ ⟨(Nat.le_of_ble_eq_true rfl), (Nat.le_of_ble_eq_true rfl)⟩, rfl, hts _ im_X5_init⟩ ⟨n_blind, n_pre hK hP hD⟩ rfl rfl hl.1 rfl (lv_room (Nat.le_of_ble_eq_true rfl)) dX9_init_137 ⟨(Nat.le_of_ble_eq_true rfl), (Nat.le_of_ble_eq_true rfl)⟩) hS (fun q _ h => hFc q h) hFc (fun u t H1 locs ht hvm h5 hB hz1 hk1 hS => ?_)
  obtain ⟨ak, rfl, hP1, hD1⟩ := hB
  rw [ht] at hP1
  obtain ⟨hP, hD⟩ := va_joinL hP hD hk1 hFc hP1 hD1
  refine W.widen (k := 108) (n := 1093) (by omega) (by omega) ?_
  have hP := va_P_perm hP (n_perm1 (x := [(h0, .inr (9, [.ref (ar9 0), .ref (ar9 21), .ref (ar9 42), .int 0, .ref (ar9 63), .ref (ar9 65), .ref (ar9 68), .ref (ar9 71), .ref (ar9 97), .ref (ar9 100), .ref qS, .ref qR])), (qS, .inl (k 15, ((8 : Nat), .inr (.inr (.inr (.inr ((va_up (fun _ => none) 0 (some (as1 0))))))))) ), (qR, .inl (k 11, ((7 : Nat), .inl (fun _ => (0 : Int32)))))]) (R1 := n_w D k n_X9_102 ar9) (R2 := n_w D k n_s1 as1) (N := n_w D k n_l5 ak))
  have hD := va_D_perm hD (n_perm1 (x := [(h0, .inr (9, [.ref (ar9 0), .ref (ar9 21), .ref (ar9 42), .int 0, .ref (ar9 63), .ref (ar9 65), .ref (ar9 68), .ref (ar9 71), .ref (ar9 97), .ref (ar9 100), .ref qS, .ref qR])), (qS, .inl (k 15, ((8 : Nat), .inr (.inr (.inr (.inr ((va_up (fun _ => none) 0 (some (as1 0))))))))) ), (qR, .inl (k 11, ((7 : Nat), .inl (fun _ => (0 : Int32)))))]) (R1 := n_w D k n_X9_102 ar9) (R2 := n_w D k n_s1 as1) (N := n_w D k n_l5 ak))
  refine va_astq (r := (RX5, TX5, 3)) (v := ak 0) (vs := [.ref (ak 1), .int (-1), .int 0]) hx hb hK.1 hP hD hS 1 4 3 5 rfl rfl rfl rfl (by unfold vp_in; decide) dX9_init_140 (fun H locs hP hD hS => ?_)
  have hP : va_P D vwCl ([(h0, .inr (9, [.ref (ar9 0), .ref (ar9 21), .ref (ar9 42), .int 0, .ref (ar9 63), .ref (ar9 65), .ref (ar9 68), .ref (ar9 71), .ref (ar9 97), .ref (ar9 100), .ref qS, .ref qR])), (qS, .inl (k 15, ((8 : Nat), .inr (.inr (.inr (.inr ((va_up (va_up (fun _ => none) 0 (some (as1 0))) 1 (some (ak 0))))))))) ), (qR, .inl (k 11, ((7 : Nat), .inl (fun _ => (0 : Int32)))))] ++ (n_w D k n_l5 ak ++ (n_w D k n_X9_102 ar9 ++ n_w D k n_s1 as1))) H := hP
  have hD : va_D A ([(h0, .inr (9, [.ref (ar9 0), .ref (ar9 21), .ref (ar9 42), .int 0, .ref (ar9 63), .ref (ar9 65), .ref (ar9 68), .ref (ar9 71), .ref (ar9 97), .ref (ar9 100), .ref qS, .ref qR])), (qS, .inl (k 15, ((8 : Nat), .inr (.inr (.inr (.inr ((va_up (va_up (fun _ => none) 0 (some (as1 0))) 1 (some (ak 0))))))))) ), (qR, .inl (k 11, ((7 : Nat), .inl (fun _ => (0 : Int32)))))] ++ (n_w D k n_l5 ak ++ (n_w D k n_X9_102 ar9 ++ n_w D k n_s1 as1))) := hD
  have hP := n_P2 n_s1_n n_s1_c n_l5_c (va_P_perm hP n_perm2)
  have hD := n_D2 n_s1_n (va_D_perm hD n_perm2)
  have hP : va_P D vwCl (([(h0, .inr (9, [.ref (ar9 0), .ref (ar9 21), .ref (ar9 42), .int 0, .ref (ar9 63), .ref (ar9 65), .ref (ar9 68), .ref (ar9 71), .ref (ar9 97), .ref (ar9 100), .ref qS, .ref qR])), (qS, .inl (k 15, ((8 : Nat), .inr (.inr (.inr (.inr ((va_up (va_up (fun _ => none) 0 (some ((n_ap 2 as1 ak) 0))) 1 (some ((n_ap 2 as1 ak) 2))))))))) ), (qR, .inl (k 11, ((7 : Nat), .inl (fun _ => (0 : Int32)))))] ++ n_w D k n_X9_102 ar9) ++ n_w D k n_s2 (n_ap 2 as1 ak)) H := hP
  have hD : va_D A (([(h0, .inr (9, [.ref (ar9 0), .ref (ar9 21), .ref (ar9 42), .int 0, .ref (ar9 63), .ref (ar9 65), .ref (ar9 68), .ref (ar9 71), .ref (ar9 97), .ref (ar9 100), .ref qS, .ref qR])), (qS, .inl (k 15, ((8 : Nat), .inr (.inr (.inr (.inr ((va_up (va_up (fun _ => none) 0 (some ((n_ap 2 as1 ak) 0))) 1 (some ((n_ap 2 as1 ak) 2))))))))) ), (qR, .inl (k 11, ((7 : Nat), .inl (fun _ => (0 : Int32)))))] ++ n_w D k n_X9_102 ar9) ++ n_w D k n_s2 (n_ap 2 as1 ak)) := hD
  generalize n_ap 2 as1 ak = as2 at hP hD
  refine lv_iinc (v := 2) (lv' := [(1, .int 2), (0, .ref h0)]) hx hb dX9_init_141 hl (k := 0) rfl (by decide) (by decide) rfl (fun ls hl => ?_)
  refine lv_goto (tgt := 122) hx hb dX9_init_144 (by decide) ?_
  refine lv_iload_n hx hb dX9_init_122 rfl (lv_at hl 0 rfl) ?_
  refine lv_bipush (v := 8) hx hb dX9_init_123 (by decide) ?_
  refine lv_icmp_ge (tgt := 147) hx hb dX9_init_125 (by decide) (fun h7 => absurd h7 (by decide)) (fun _ => ?_)
  refine lv_aload_n hx hb dX9_init_128 rfl (lv_at hl 1 rfl) ?_
  refine va_get (D := D) (ci := 9) (v := .ref qS) (C := RX9) (T := TX9) (N := 12) hx hb hts uw9 hown hK.1 hP 0 rfl rfl 10 (by decide) (hts _ flX9_66) (fun _ h9 => h9) rfl dX9_init_129 ?_
  refine lv_iload_n hx hb dX9_init_132 rfl (lv_at hl 0 rfl) ?_
  refine va_new (ci := 5) (fs := [.null, .int 0, .int 0]) (C := RX5) (T := TX5) (N := 3) hx hb hts uw5 tyX5 tyX5_ok hown (hts _ clX9_64) (hts _ in_X5) (hts _ ni_X5) hK.1 hP hD hS hA rfl (fun j hj => by rcases (show j = 0 ∨ j = 1 ∨ j = 2 by omega) with rfl | rfl | rfl <;> rfl) (Nat.le_of_ble_eq_true rfl) (Nat.le_of_ble_eq_true rfl) dX9_init_133 (fun q H hP hD hS => ?_)
  have hP : va_P D vwCl ((([(h0, .inr (9, [.ref (ar9 0), .ref (ar9 21), .ref (ar9 42), .int 0, .ref (ar9 63), .ref (ar9 65), .ref (ar9 68), .ref (ar9 71), .ref (ar9 97), .ref (ar9 100), .ref qS, .ref qR])), (qS, .inl (k 15, ((8 : Nat), .inr (.inr (.inr (.inr ((va_up (va_up (fun _ => none) 0 (some (as2 0))) 1 (some (as2 2))))))))) ), (qR, .inl (k 11, ((7 : Nat), .inl (fun _ => (0 : Int32)))))] ++ n_w D k n_X9_102 ar9) ++ n_w D k n_s2 as2) ++ [(q, .inr (5, [.null, .int 0, .int 0]))]) H := hP
  have hD : va_D A ((([(h0, .inr (9, [.ref (ar9 0), .ref (ar9 21), .ref (ar9 42), .int 0, .ref (ar9 63), .ref (ar9 65), .ref (ar9 68), .ref (ar9 71), .ref (ar9 97), .ref (ar9 100), .ref qS, .ref qR])), (qS, .inl (k 15, ((8 : Nat), .inr (.inr (.inr (.inr ((va_up (va_up (fun _ => none) 0 (some (as2 0))) 1 (some (as2 2))))))))) ), (qR, .inl (k 11, ((7 : Nat), .inl (fun _ => (0 : Int32)))))] ++ n_w D k n_X9_102 ar9) ++ n_w D k n_s2 as2) ++ [(q, .inr (5, [.null, .int 0, .int 0]))]) := hD
  refine W.widen (k := 109) (n := 1096) (by omega) (by omega) ?_
  refine lv_dup hx hb dX9_init_136 rfl ?_
  have hFc := va_freeL hD hS hA
  refine va_callv (va_runIN (As := []) (rest := [.ref q, .int 2, .ref qS]) ⟨hx, hb, hml, hown, hts⟩ (n_X5_init l D k q H.size) ⟨va_cnB (ws' := j_gw) 0 hts (j_goodS cd_X5_init) rfl rfl rfl (hK.2.1 _ mlX9_74) (hts _ ni_X5) ⟨by decide, by decide, by decide +kernel⟩ ⟨(Nat.le_of_ble_eq_true rfl), (Nat.le_of_ble_eq_true rfl)⟩, rfl, hts _ im_X5_init⟩ ⟨n_blind, n_pre hK hP hD⟩ rfl rfl hl.1 rfl (lv_room (Nat.le_of_ble_eq_true rfl)) dX9_init_137 ⟨(Nat.le_of_ble_eq_true rfl), (Nat.le_of_ble_eq_true rfl)⟩) hS (fun q _ h => hFc q h) hFc (fun u t H1 locs ht hvm h5 hB hz1 hk1 hS => ?_)
  obtain ⟨ak, rfl, hP1, hD1⟩ := hB
  rw [ht] at hP1
  obtain ⟨hP, hD⟩ := va_joinL hP hD hk1 hFc hP1 hD1
  refine W.widen (k := 110) (n := 1136) (by omega) (by omega) ?_
  have hP := va_P_perm hP (n_perm1 (x := [(h0, .inr (9, [.ref (ar9 0), .ref (ar9 21), .ref (ar9 42), .int 0, .ref (ar9 63), .ref (ar9 65), .ref (ar9 68), .ref (ar9 71), .ref (ar9 97), .ref (ar9 100), .ref qS, .ref qR])), (qS, .inl (k 15, ((8 : Nat), .inr (.inr (.inr (.inr ((va_up (va_up (fun _ => none) 0 (some (as2 0))) 1 (some (as2 2))))))))) ), (qR, .inl (k 11, ((7 : Nat), .inl (fun _ => (0 : Int32)))))]) (R1 := n_w D k n_X9_102 ar9) (R2 := n_w D k n_s2 as2) (N := n_w D k n_l5 ak))
  have hD := va_D_perm hD (n_perm1 (x := [(h0, .inr (9, [.ref (ar9 0), .ref (ar9 21), .ref (ar9 42), .int 0, .ref (ar9 63), .ref (ar9 65), .ref (ar9 68), .ref (ar9 71), .ref (ar9 97), .ref (ar9 100), .ref qS, .ref qR])), (qS, .inl (k 15, ((8 : Nat), .inr (.inr (.inr (.inr ((va_up (va_up (fun _ => none) 0 (some (as2 0))) 1 (some (as2 2))))))))) ), (qR, .inl (k 11, ((7 : Nat), .inl (fun _ => (0 : Int32)))))]) (R1 := n_w D k n_X9_102 ar9) (R2 := n_w D k n_s2 as2) (N := n_w D k n_l5 ak))
  refine va_astq (r := (RX5, TX5, 3)) (v := ak 0) (vs := [.ref (ak 1), .int (-1), .int 0]) hx hb hK.1 hP hD hS 1 4 3 5 rfl rfl rfl rfl (by unfold vp_in; decide) dX9_init_140 (fun H locs hP hD hS => ?_)
  have hP : va_P D vwCl ([(h0, .inr (9, [.ref (ar9 0), .ref (ar9 21), .ref (ar9 42), .int 0, .ref (ar9 63), .ref (ar9 65), .ref (ar9 68), .ref (ar9 71), .ref (ar9 97), .ref (ar9 100), .ref qS, .ref qR])), (qS, .inl (k 15, ((8 : Nat), .inr (.inr (.inr (.inr ((va_up (va_up (va_up (fun _ => none) 0 (some (as2 0))) 1 (some (as2 2))) 2 (some (ak 0))))))))) ), (qR, .inl (k 11, ((7 : Nat), .inl (fun _ => (0 : Int32)))))] ++ (n_w D k n_l5 ak ++ (n_w D k n_X9_102 ar9 ++ n_w D k n_s2 as2))) H := hP
  have hD : va_D A ([(h0, .inr (9, [.ref (ar9 0), .ref (ar9 21), .ref (ar9 42), .int 0, .ref (ar9 63), .ref (ar9 65), .ref (ar9 68), .ref (ar9 71), .ref (ar9 97), .ref (ar9 100), .ref qS, .ref qR])), (qS, .inl (k 15, ((8 : Nat), .inr (.inr (.inr (.inr ((va_up (va_up (va_up (fun _ => none) 0 (some (as2 0))) 1 (some (as2 2))) 2 (some (ak 0))))))))) ), (qR, .inl (k 11, ((7 : Nat), .inl (fun _ => (0 : Int32)))))] ++ (n_w D k n_l5 ak ++ (n_w D k n_X9_102 ar9 ++ n_w D k n_s2 as2))) := hD
  have hP := n_P2 n_s2_n n_s2_c n_l5_c (va_P_perm hP n_perm2)
  have hD := n_D2 n_s2_n (va_D_perm hD n_perm2)
  have hP : va_P D vwCl (([(h0, .inr (9, [.ref (ar9 0), .ref (ar9 21), .ref (ar9 42), .int 0, .ref (ar9 63), .ref (ar9 65), .ref (ar9 68), .ref (ar9 71), .ref (ar9 97), .ref (ar9 100), .ref qS, .ref qR])), (qS, .inl (k 15, ((8 : Nat), .inr (.inr (.inr (.inr ((va_up (va_up (va_up (fun _ => none) 0 (some ((n_ap 4 as2 ak) 0))) 1 (some ((n_ap 4 as2 ak) 2))) 2 (some ((n_ap 4 as2 ak) 4))))))))) ), (qR, .inl (k 11, ((7 : Nat), .inl (fun _ => (0 : Int32)))))] ++ n_w D k n_X9_102 ar9) ++ n_w D k n_s3 (n_ap 4 as2 ak)) H := hP
  have hD : va_D A (([(h0, .inr (9, [.ref (ar9 0), .ref (ar9 21), .ref (ar9 42), .int 0, .ref (ar9 63), .ref (ar9 65), .ref (ar9 68), .ref (ar9 71), .ref (ar9 97), .ref (ar9 100), .ref qS, .ref qR])), (qS, .inl (k 15, ((8 : Nat), .inr (.inr (.inr (.inr ((va_up (va_up (va_up (fun _ => none) 0 (some ((n_ap 4 as2 ak) 0))) 1 (some ((n_ap 4 as2 ak) 2))) 2 (some ((n_ap 4 as2 ak) 4))))))))) ), (qR, .inl (k 11, ((7 : Nat), .inl (fun _ => (0 : Int32)))))] ++ n_w D k n_X9_102 ar9) ++ n_w D k n_s3 (n_ap 4 as2 ak)) := hD
  generalize n_ap 4 as2 ak = as3 at hP hD
  refine lv_iinc (v := 3) (lv' := [(1, .int 3), (0, .ref h0)]) hx hb dX9_init_141 hl (k := 0) rfl (by decide) (by decide) rfl (fun ls hl => ?_)
  refine lv_goto (tgt := 122) hx hb dX9_init_144 (by decide) ?_
  refine lv_iload_n hx hb dX9_init_122 rfl (lv_at hl 0 rfl) ?_
  refine lv_bipush (v := 8) hx hb dX9_init_123 (by decide) ?_
  refine lv_icmp_ge (tgt := 147) hx hb dX9_init_125 (by decide) (fun h7 => absurd h7 (by decide)) (fun _ => ?_)
  refine lv_aload_n hx hb dX9_init_128 rfl (lv_at hl 1 rfl) ?_
  refine va_get (D := D) (ci := 9) (v := .ref qS) (C := RX9) (T := TX9) (N := 12) hx hb hts uw9 hown hK.1 hP 0 rfl rfl 10 (by decide) (hts _ flX9_66) (fun _ h9 => h9) rfl dX9_init_129 ?_
  refine lv_iload_n hx hb dX9_init_132 rfl (lv_at hl 0 rfl) ?_
  refine va_new (ci := 5) (fs := [.null, .int 0, .int 0]) (C := RX5) (T := TX5) (N := 3) hx hb hts uw5 tyX5 tyX5_ok hown (hts _ clX9_64) (hts _ in_X5) (hts _ ni_X5) hK.1 hP hD hS hA rfl (fun j hj => by rcases (show j = 0 ∨ j = 1 ∨ j = 2 by omega) with rfl | rfl | rfl <;> rfl) (Nat.le_of_ble_eq_true rfl) (Nat.le_of_ble_eq_true rfl) dX9_init_133 (fun q H hP hD hS => ?_)
  have hP : va_P D vwCl ((([(h0, .inr (9, [.ref (ar9 0), .ref (ar9 21), .ref (ar9 42), .int 0, .ref (ar9 63), .ref (ar9 65), .ref (ar9 68), .ref (ar9 71), .ref (ar9 97), .ref (ar9 100), .ref qS, .ref qR])), (qS, .inl (k 15, ((8 : Nat), .inr (.inr (.inr (.inr ((va_up (va_up (va_up (fun _ => none) 0 (some (as3 0))) 1 (some (as3 2))) 2 (some (as3 4))))))))) ), (qR, .inl (k 11, ((7 : Nat), .inl (fun _ => (0 : Int32)))))] ++ n_w D k n_X9_102 ar9) ++ n_w D k n_s3 as3) ++ [(q, .inr (5, [.null, .int 0, .int 0]))]) H := hP
  have hD : va_D A ((([(h0, .inr (9, [.ref (ar9 0), .ref (ar9 21), .ref (ar9 42), .int 0, .ref (ar9 63), .ref (ar9 65), .ref (ar9 68), .ref (ar9 71), .ref (ar9 97), .ref (ar9 100), .ref qS, .ref qR])), (qS, .inl (k 15, ((8 : Nat), .inr (.inr (.inr (.inr ((va_up (va_up (va_up (fun _ => none) 0 (some (as3 0))) 1 (some (as3 2))) 2 (some (as3 4))))))))) ), (qR, .inl (k 11, ((7 : Nat), .inl (fun _ => (0 : Int32)))))] ++ n_w D k n_X9_102 ar9) ++ n_w D k n_s3 as3) ++ [(q, .inr (5, [.null, .int 0, .int 0]))]) := hD
  refine W.widen (k := 111) (n := 1139) (by omega) (by omega) ?_
  refine lv_dup hx hb dX9_init_136 rfl ?_
  have hFc := va_freeL hD hS hA
  refine va_callv (va_runIN (As := []) (rest := [.ref q, .int 3, .ref qS]) ⟨hx, hb, hml, hown, hts⟩ (n_X5_init l D k q H.size) ⟨va_cnB (ws' := j_gw) 0 hts (j_goodS cd_X5_init) rfl rfl rfl (hK.2.1 _ mlX9_74) (hts _ ni_X5) ⟨by decide, by decide, by decide +kernel⟩ ⟨(Nat.le_of_ble_eq_true rfl), (Nat.le_of_ble_eq_true rfl)⟩, rfl, hts _ im_X5_init⟩ ⟨n_blind, n_pre hK hP hD⟩ rfl rfl hl.1 rfl (lv_room (Nat.le_of_ble_eq_true rfl)) dX9_init_137 ⟨(Nat.le_of_ble_eq_true rfl), (Nat.le_of_ble_eq_true rfl)⟩) hS (fun q _ h => hFc q h) hFc (fun u t H1 locs ht hvm h5 hB hz1 hk1 hS => ?_)
  obtain ⟨ak, rfl, hP1, hD1⟩ := hB
  rw [ht] at hP1
  obtain ⟨hP, hD⟩ := va_joinL hP hD hk1 hFc hP1 hD1
  refine W.widen (k := 112) (n := 1179) (by omega) (by omega) ?_
  have hP := va_P_perm hP (n_perm1 (x := [(h0, .inr (9, [.ref (ar9 0), .ref (ar9 21), .ref (ar9 42), .int 0, .ref (ar9 63), .ref (ar9 65), .ref (ar9 68), .ref (ar9 71), .ref (ar9 97), .ref (ar9 100), .ref qS, .ref qR])), (qS, .inl (k 15, ((8 : Nat), .inr (.inr (.inr (.inr ((va_up (va_up (va_up (fun _ => none) 0 (some (as3 0))) 1 (some (as3 2))) 2 (some (as3 4))))))))) ), (qR, .inl (k 11, ((7 : Nat), .inl (fun _ => (0 : Int32)))))]) (R1 := n_w D k n_X9_102 ar9) (R2 := n_w D k n_s3 as3) (N := n_w D k n_l5 ak))
  have hD := va_D_perm hD (n_perm1 (x := [(h0, .inr (9, [.ref (ar9 0), .ref (ar9 21), .ref (ar9 42), .int 0, .ref (ar9 63), .ref (ar9 65), .ref (ar9 68), .ref (ar9 71), .ref (ar9 97), .ref (ar9 100), .ref qS, .ref qR])), (qS, .inl (k 15, ((8 : Nat), .inr (.inr (.inr (.inr ((va_up (va_up (va_up (fun _ => none) 0 (some (as3 0))) 1 (some (as3 2))) 2 (some (as3 4))))))))) ), (qR, .inl (k 11, ((7 : Nat), .inl (fun _ => (0 : Int32)))))]) (R1 := n_w D k n_X9_102 ar9) (R2 := n_w D k n_s3 as3) (N := n_w D k n_l5 ak))
  refine va_astq (r := (RX5, TX5, 3)) (v := ak 0) (vs := [.ref (ak 1), .int (-1), .int 0]) hx hb hK.1 hP hD hS 1 4 3 5 rfl rfl rfl rfl (by unfold vp_in; decide) dX9_init_140 (fun H locs hP hD hS => ?_)
  have hP : va_P D vwCl ([(h0, .inr (9, [.ref (ar9 0), .ref (ar9 21), .ref (ar9 42), .int 0, .ref (ar9 63), .ref (ar9 65), .ref (ar9 68), .ref (ar9 71), .ref (ar9 97), .ref (ar9 100), .ref qS, .ref qR])), (qS, .inl (k 15, ((8 : Nat), .inr (.inr (.inr (.inr ((va_up (va_up (va_up (va_up (fun _ => none) 0 (some (as3 0))) 1 (some (as3 2))) 2 (some (as3 4))) 3 (some (ak 0))))))))) ), (qR, .inl (k 11, ((7 : Nat), .inl (fun _ => (0 : Int32)))))] ++ (n_w D k n_l5 ak ++ (n_w D k n_X9_102 ar9 ++ n_w D k n_s3 as3))) H := hP
  have hD : va_D A ([(h0, .inr (9, [.ref (ar9 0), .ref (ar9 21), .ref (ar9 42), .int 0, .ref (ar9 63), .ref (ar9 65), .ref (ar9 68), .ref (ar9 71), .ref (ar9 97), .ref (ar9 100), .ref qS, .ref qR])), (qS, .inl (k 15, ((8 : Nat), .inr (.inr (.inr (.inr ((va_up (va_up (va_up (va_up (fun _ => none) 0 (some (as3 0))) 1 (some (as3 2))) 2 (some (as3 4))) 3 (some (ak 0))))))))) ), (qR, .inl (k 11, ((7 : Nat), .inl (fun _ => (0 : Int32)))))] ++ (n_w D k n_l5 ak ++ (n_w D k n_X9_102 ar9 ++ n_w D k n_s3 as3))) := hD
  have hP := n_P2 n_s3_n n_s3_c n_l5_c (va_P_perm hP n_perm2)
  have hD := n_D2 n_s3_n (va_D_perm hD n_perm2)
  have hP : va_P D vwCl (([(h0, .inr (9, [.ref (ar9 0), .ref (ar9 21), .ref (ar9 42), .int 0, .ref (ar9 63), .ref (ar9 65), .ref (ar9 68), .ref (ar9 71), .ref (ar9 97), .ref (ar9 100), .ref qS, .ref qR])), (qS, .inl (k 15, ((8 : Nat), .inr (.inr (.inr (.inr ((va_up (va_up (va_up (va_up (fun _ => none) 0 (some ((n_ap 6 as3 ak) 0))) 1 (some ((n_ap 6 as3 ak) 2))) 2 (some ((n_ap 6 as3 ak) 4))) 3 (some ((n_ap 6 as3 ak) 6))))))))) ), (qR, .inl (k 11, ((7 : Nat), .inl (fun _ => (0 : Int32)))))] ++ n_w D k n_X9_102 ar9) ++ n_w D k n_s4 (n_ap 6 as3 ak)) H := hP
  have hD : va_D A (([(h0, .inr (9, [.ref (ar9 0), .ref (ar9 21), .ref (ar9 42), .int 0, .ref (ar9 63), .ref (ar9 65), .ref (ar9 68), .ref (ar9 71), .ref (ar9 97), .ref (ar9 100), .ref qS, .ref qR])), (qS, .inl (k 15, ((8 : Nat), .inr (.inr (.inr (.inr ((va_up (va_up (va_up (va_up (fun _ => none) 0 (some ((n_ap 6 as3 ak) 0))) 1 (some ((n_ap 6 as3 ak) 2))) 2 (some ((n_ap 6 as3 ak) 4))) 3 (some ((n_ap 6 as3 ak) 6))))))))) ), (qR, .inl (k 11, ((7 : Nat), .inl (fun _ => (0 : Int32)))))] ++ n_w D k n_X9_102 ar9) ++ n_w D k n_s4 (n_ap 6 as3 ak)) := hD
  generalize n_ap 6 as3 ak = as4 at hP hD
  refine lv_iinc (v := 4) (lv' := [(1, .int 4), (0, .ref h0)]) hx hb dX9_init_141 hl (k := 0) rfl (by decide) (by decide) rfl (fun ls hl => ?_)
  refine lv_goto (tgt := 122) hx hb dX9_init_144 (by decide) ?_
  refine lv_iload_n hx hb dX9_init_122 rfl (lv_at hl 0 rfl) ?_
  refine lv_bipush (v := 8) hx hb dX9_init_123 (by decide) ?_
  refine lv_icmp_ge (tgt := 147) hx hb dX9_init_125 (by decide) (fun h7 => absurd h7 (by decide)) (fun _ => ?_)
  refine lv_aload_n hx hb dX9_init_128 rfl (lv_at hl 1 rfl) ?_
  refine va_get (D := D) (ci := 9) (v := .ref qS) (C := RX9) (T := TX9) (N := 12) hx hb hts uw9 hown hK.1 hP 0 rfl rfl 10 (by decide) (hts _ flX9_66) (fun _ h9 => h9) rfl dX9_init_129 ?_
  refine lv_iload_n hx hb dX9_init_132 rfl (lv_at hl 0 rfl) ?_
  refine va_new (ci := 5) (fs := [.null, .int 0, .int 0]) (C := RX5) (T := TX5) (N := 3) hx hb hts uw5 tyX5 tyX5_ok hown (hts _ clX9_64) (hts _ in_X5) (hts _ ni_X5) hK.1 hP hD hS hA rfl (fun j hj => by rcases (show j = 0 ∨ j = 1 ∨ j = 2 by omega) with rfl | rfl | rfl <;> rfl) (Nat.le_of_ble_eq_true rfl) (Nat.le_of_ble_eq_true rfl) dX9_init_133 (fun q H hP hD hS => ?_)
  have hP : va_P D vwCl ((([(h0, .inr (9, [.ref (ar9 0), .ref (ar9 21), .ref (ar9 42), .int 0, .ref (ar9 63), .ref (ar9 65), .ref (ar9 68), .ref (ar9 71), .ref (ar9 97), .ref (ar9 100), .ref qS, .ref qR])), (qS, .inl (k 15, ((8 : Nat), .inr (.inr (.inr (.inr ((va_up (va_up (va_up (va_up (fun _ => none) 0 (some (as4 0))) 1 (some (as4 2))) 2 (some (as4 4))) 3 (some (as4 6))))))))) ), (qR, .inl (k 11, ((7 : Nat), .inl (fun _ => (0 : Int32)))))] ++ n_w D k n_X9_102 ar9) ++ n_w D k n_s4 as4) ++ [(q, .inr (5, [.null, .int 0, .int 0]))]) H := hP
  have hD : va_D A ((([(h0, .inr (9, [.ref (ar9 0), .ref (ar9 21), .ref (ar9 42), .int 0, .ref (ar9 63), .ref (ar9 65), .ref (ar9 68), .ref (ar9 71), .ref (ar9 97), .ref (ar9 100), .ref qS, .ref qR])), (qS, .inl (k 15, ((8 : Nat), .inr (.inr (.inr (.inr ((va_up (va_up (va_up (va_up (fun _ => none) 0 (some (as4 0))) 1 (some (as4 2))) 2 (some (as4 4))) 3 (some (as4 6))))))))) ), (qR, .inl (k 11, ((7 : Nat), .inl (fun _ => (0 : Int32)))))] ++ n_w D k n_X9_102 ar9) ++ n_w D k n_s4 as4) ++ [(q, .inr (5, [.null, .int 0, .int 0]))]) := hD
  refine W.widen (k := 113) (n := 1182) (by omega) (by omega) ?_
  refine lv_dup hx hb dX9_init_136 rfl ?_
  have hFc := va_freeL hD hS hA
  refine va_callv (va_runIN (As := []) (rest := [.ref q, .int 4, .ref qS]) ⟨hx, hb, hml, hown, hts⟩ (n_X5_init l D k q H.size) ⟨va_cnB (ws' := j_gw) 0 hts (j_goodS cd_X5_init) rfl rfl rfl (hK.2.1 _ mlX9_74) (hts _ ni_X5) ⟨by decide, by decide, by decide +kernel⟩ ⟨(Nat.le_of_ble_eq_true rfl), (Nat.le_of_ble_eq_true rfl)⟩, rfl, hts _ im_X5_init⟩ ⟨n_blind, n_pre hK hP hD⟩ rfl rfl hl.1 rfl (lv_room (Nat.le_of_ble_eq_true rfl)) dX9_init_137 ⟨(Nat.le_of_ble_eq_true rfl), (Nat.le_of_ble_eq_true rfl)⟩) hS (fun q _ h => hFc q h) hFc (fun u t H1 locs ht hvm h5 hB hz1 hk1 hS => ?_)
  obtain ⟨ak, rfl, hP1, hD1⟩ := hB
  rw [ht] at hP1
  obtain ⟨hP, hD⟩ := va_joinL hP hD hk1 hFc hP1 hD1
  refine W.widen (k := 114) (n := 1222) (by omega) (by omega) ?_
  have hP := va_P_perm hP (n_perm1 (x := [(h0, .inr (9, [.ref (ar9 0), .ref (ar9 21), .ref (ar9 42), .int 0, .ref (ar9 63), .ref (ar9 65), .ref (ar9 68), .ref (ar9 71), .ref (ar9 97), .ref (ar9 100), .ref qS, .ref qR])), (qS, .inl (k 15, ((8 : Nat), .inr (.inr (.inr (.inr ((va_up (va_up (va_up (va_up (fun _ => none) 0 (some (as4 0))) 1 (some (as4 2))) 2 (some (as4 4))) 3 (some (as4 6))))))))) ), (qR, .inl (k 11, ((7 : Nat), .inl (fun _ => (0 : Int32)))))]) (R1 := n_w D k n_X9_102 ar9) (R2 := n_w D k n_s4 as4) (N := n_w D k n_l5 ak))
  have hD := va_D_perm hD (n_perm1 (x := [(h0, .inr (9, [.ref (ar9 0), .ref (ar9 21), .ref (ar9 42), .int 0, .ref (ar9 63), .ref (ar9 65), .ref (ar9 68), .ref (ar9 71), .ref (ar9 97), .ref (ar9 100), .ref qS, .ref qR])), (qS, .inl (k 15, ((8 : Nat), .inr (.inr (.inr (.inr ((va_up (va_up (va_up (va_up (fun _ => none) 0 (some (as4 0))) 1 (some (as4 2))) 2 (some (as4 4))) 3 (some (as4 6))))))))) ), (qR, .inl (k 11, ((7 : Nat), .inl (fun _ => (0 : Int32)))))]) (R1 := n_w D k n_X9_102 ar9) (R2 := n_w D k n_s4 as4) (N := n_w D k n_l5 ak))
  refine va_astq (r := (RX5, TX5, 3)) (v := ak 0) (vs := [.ref (ak 1), .int (-1), .int 0]) hx hb hK.1 hP hD hS 1 4 3 5 rfl rfl rfl rfl (by unfold vp_in; decide) dX9_init_140 (fun H locs hP hD hS => ?_)
  have hP : va_P D vwCl ([(h0, .inr (9, [.ref (ar9 0), .ref (ar9 21), .ref (ar9 42), .int 0, .ref (ar9 63), .ref (ar9 65), .ref (ar9 68), .ref (ar9 71), .ref (ar9 97), .ref (ar9 100), .ref qS, .ref qR])), (qS, .inl (k 15, ((8 : Nat), .inr (.inr (.inr (.inr ((va_up (va_up (va_up (va_up (va_up (fun _ => none) 0 (some (as4 0))) 1 (some (as4 2))) 2 (some (as4 4))) 3 (some (as4 6))) 4 (some (ak 0))))))))) ), (qR, .inl (k 11, ((7 : Nat), .inl (fun _ => (0 : Int32)))))] ++ (n_w D k n_l5 ak ++ (n_w D k n_X9_102 ar9 ++ n_w D k n_s4 as4))) H := hP
  have hD : va_D A ([(h0, .inr (9, [.ref (ar9 0), .ref (ar9 21), .ref (ar9 42), .int 0, .ref (ar9 63), .ref (ar9 65), .ref (ar9 68), .ref (ar9 71), .ref (ar9 97), .ref (ar9 100), .ref qS, .ref qR])), (qS, .inl (k 15, ((8 : Nat), .inr (.inr (.inr (.inr ((va_up (va_up (va_up (va_up (va_up (fun _ => none) 0 (some (as4 0))) 1 (some (as4 2))) 2 (some (as4 4))) 3 (some (as4 6))) 4 (some (ak 0))))))))) ), (qR, .inl (k 11, ((7 : Nat), .inl (fun _ => (0 : Int32)))))] ++ (n_w D k n_l5 ak ++ (n_w D k n_X9_102 ar9 ++ n_w D k n_s4 as4))) := hD
  have hP := n_P2 n_s4_n n_s4_c n_l5_c (va_P_perm hP n_perm2)
  have hD := n_D2 n_s4_n (va_D_perm hD n_perm2)
  have hP : va_P D vwCl (([(h0, .inr (9, [.ref (ar9 0), .ref (ar9 21), .ref (ar9 42), .int 0, .ref (ar9 63), .ref (ar9 65), .ref (ar9 68), .ref (ar9 71), .ref (ar9 97), .ref (ar9 100), .ref qS, .ref qR])), (qS, .inl (k 15, ((8 : Nat), .inr (.inr (.inr (.inr ((va_up (va_up (va_up (va_up (va_up (fun _ => none) 0 (some ((n_ap 8 as4 ak) 0))) 1 (some ((n_ap 8 as4 ak) 2))) 2 (some ((n_ap 8 as4 ak) 4))) 3 (some ((n_ap 8 as4 ak) 6))) 4 (some ((n_ap 8 as4 ak) 8))))))))) ), (qR, .inl (k 11, ((7 : Nat), .inl (fun _ => (0 : Int32)))))] ++ n_w D k n_X9_102 ar9) ++ n_w D k n_s5 (n_ap 8 as4 ak)) H := hP
  have hD : va_D A (([(h0, .inr (9, [.ref (ar9 0), .ref (ar9 21), .ref (ar9 42), .int 0, .ref (ar9 63), .ref (ar9 65), .ref (ar9 68), .ref (ar9 71), .ref (ar9 97), .ref (ar9 100), .ref qS, .ref qR])), (qS, .inl (k 15, ((8 : Nat), .inr (.inr (.inr (.inr ((va_up (va_up (va_up (va_up (va_up (fun _ => none) 0 (some ((n_ap 8 as4 ak) 0))) 1 (some ((n_ap 8 as4 ak) 2))) 2 (some ((n_ap 8 as4 ak) 4))) 3 (some ((n_ap 8 as4 ak) 6))) 4 (some ((n_ap 8 as4 ak) 8))))))))) ), (qR, .inl (k 11, ((7 : Nat), .inl (fun _ => (0 : Int32)))))] ++ n_w D k n_X9_102 ar9) ++ n_w D k n_s5 (n_ap 8 as4 ak)) := hD
  generalize n_ap 8 as4 ak = as5 at hP hD
  refine lv_iinc (v := 5) (lv' := [(1, .int 5), (0, .ref h0)]) hx hb dX9_init_141 hl (k := 0) rfl (by decide) (by decide) rfl (fun ls hl => ?_)
  refine lv_goto (tgt := 122) hx hb dX9_init_144 (by decide) ?_
  refine lv_iload_n hx hb dX9_init_122 rfl (lv_at hl 0 rfl) ?_
  refine lv_bipush (v := 8) hx hb dX9_init_123 (by decide) ?_
  refine lv_icmp_ge (tgt := 147) hx hb dX9_init_125 (by decide) (fun h7 => absurd h7 (by decide)) (fun _ => ?_)
  refine lv_aload_n hx hb dX9_init_128 rfl (lv_at hl 1 rfl) ?_
  refine va_get (D := D) (ci := 9) (v := .ref qS) (C := RX9) (T := TX9) (N := 12) hx hb hts uw9 hown hK.1 hP 0 rfl rfl 10 (by decide) (hts _ flX9_66) (fun _ h9 => h9) rfl dX9_init_129 ?_
  refine lv_iload_n hx hb dX9_init_132 rfl (lv_at hl 0 rfl) ?_
  refine va_new (ci := 5) (fs := [.null, .int 0, .int 0]) (C := RX5) (T := TX5) (N := 3) hx hb hts uw5 tyX5 tyX5_ok hown (hts _ clX9_64) (hts _ in_X5) (hts _ ni_X5) hK.1 hP hD hS hA rfl (fun j hj => by rcases (show j = 0 ∨ j = 1 ∨ j = 2 by omega) with rfl | rfl | rfl <;> rfl) (Nat.le_of_ble_eq_true rfl) (Nat.le_of_ble_eq_true rfl) dX9_init_133 (fun q H hP hD hS => ?_)
  have hP : va_P D vwCl ((([(h0, .inr (9, [.ref (ar9 0), .ref (ar9 21), .ref (ar9 42), .int 0, .ref (ar9 63), .ref (ar9 65), .ref (ar9 68), .ref (ar9 71), .ref (ar9 97), .ref (ar9 100), .ref qS, .ref qR])), (qS, .inl (k 15, ((8 : Nat), .inr (.inr (.inr (.inr ((va_up (va_up (va_up (va_up (va_up (fun _ => none) 0 (some (as5 0))) 1 (some (as5 2))) 2 (some (as5 4))) 3 (some (as5 6))) 4 (some (as5 8))))))))) ), (qR, .inl (k 11, ((7 : Nat), .inl (fun _ => (0 : Int32)))))] ++ n_w D k n_X9_102 ar9) ++ n_w D k n_s5 as5) ++ [(q, .inr (5, [.null, .int 0, .int 0]))]) H := hP
  have hD : va_D A ((([(h0, .inr (9, [.ref (ar9 0), .ref (ar9 21), .ref (ar9 42), .int 0, .ref (ar9 63), .ref (ar9 65), .ref (ar9 68), .ref (ar9 71), .ref (ar9 97), .ref (ar9 100), .ref qS, .ref qR])), (qS, .inl (k 15, ((8 : Nat), .inr (.inr (.inr (.inr ((va_up (va_up (va_up (va_up (va_up (fun _ => none) 0 (some (as5 0))) 1 (some (as5 2))) 2 (some (as5 4))) 3 (some (as5 6))) 4 (some (as5 8))))))))) ), (qR, .inl (k 11, ((7 : Nat), .inl (fun _ => (0 : Int32)))))] ++ n_w D k n_X9_102 ar9) ++ n_w D k n_s5 as5) ++ [(q, .inr (5, [.null, .int 0, .int 0]))]) := hD
  refine W.widen (k := 115) (n := 1225) (by omega) (by omega) ?_
  refine lv_dup hx hb dX9_init_136 rfl ?_
  have hFc := va_freeL hD hS hA
  refine va_callv (va_runIN (As := []) (rest := [.ref q, .int 5, .ref qS]) ⟨hx, hb, hml, hown, hts⟩ (n_X5_init l D k q H.size) ⟨va_cnB (ws' := j_gw) 0 hts (j_goodS cd_X5_init) rfl rfl rfl (hK.2.1 _ mlX9_74) (hts _ ni_X5) ⟨by decide, by decide, by decide +kernel⟩ ⟨(Nat.le_of_ble_eq_true rfl), (Nat.le_of_ble_eq_true rfl)⟩, rfl, hts _ im_X5_init⟩ ⟨n_blind, n_pre hK hP hD⟩ rfl rfl hl.1 rfl (lv_room (Nat.le_of_ble_eq_true rfl)) dX9_init_137 ⟨(Nat.le_of_ble_eq_true rfl), (Nat.le_of_ble_eq_true rfl)⟩) hS (fun q _ h => hFc q h) hFc (fun u t H1 locs ht hvm h5 hB hz1 hk1 hS => ?_)
  obtain ⟨ak, rfl, hP1, hD1⟩ := hB
  rw [ht] at hP1
  obtain ⟨hP, hD⟩ := va_joinL hP hD hk1 hFc hP1 hD1
  refine W.widen (k := 116) (n := 1265) (by omega) (by omega) ?_
  have hP := va_P_perm hP (n_perm1 (x := [(h0, .inr (9, [.ref (ar9 0), .ref (ar9 21), .ref (ar9 42), .int 0, .ref (ar9 63), .ref (ar9 65), .ref (ar9 68), .ref (ar9 71), .ref (ar9 97), .ref (ar9 100), .ref qS, .ref qR])), (qS, .inl (k 15, ((8 : Nat), .inr (.inr (.inr (.inr ((va_up (va_up (va_up (va_up (va_up (fun _ => none) 0 (some (as5 0))) 1 (some (as5 2))) 2 (some (as5 4))) 3 (some (as5 6))) 4 (some (as5 8))))))))) ), (qR, .inl (k 11, ((7 : Nat), .inl (fun _ => (0 : Int32)))))]) (R1 := n_w D k n_X9_102 ar9) (R2 := n_w D k n_s5 as5) (N := n_w D k n_l5 ak))
  have hD := va_D_perm hD (n_perm1 (x := [(h0, .inr (9, [.ref (ar9 0), .ref (ar9 21), .ref (ar9 42), .int 0, .ref (ar9 63), .ref (ar9 65), .ref (ar9 68), .ref (ar9 71), .ref (ar9 97), .ref (ar9 100), .ref qS, .ref qR])), (qS, .inl (k 15, ((8 : Nat), .inr (.inr (.inr (.inr ((va_up (va_up (va_up (va_up (va_up (fun _ => none) 0 (some (as5 0))) 1 (some (as5 2))) 2 (some (as5 4))) 3 (some (as5 6))) 4 (some (as5 8))))))))) ), (qR, .inl (k 11, ((7 : Nat), .inl (fun _ => (0 : Int32)))))]) (R1 := n_w D k n_X9_102 ar9) (R2 := n_w D k n_s5 as5) (N := n_w D k n_l5 ak))
  refine va_astq (r := (RX5, TX5, 3)) (v := ak 0) (vs := [.ref (ak 1), .int (-1), .int 0]) hx hb hK.1 hP hD hS 1 4 3 5 rfl rfl rfl rfl (by unfold vp_in; decide) dX9_init_140 (fun H locs hP hD hS => ?_)
  have hP : va_P D vwCl ([(h0, .inr (9, [.ref (ar9 0), .ref (ar9 21), .ref (ar9 42), .int 0, .ref (ar9 63), .ref (ar9 65), .ref (ar9 68), .ref (ar9 71), .ref (ar9 97), .ref (ar9 100), .ref qS, .ref qR])), (qS, .inl (k 15, ((8 : Nat), .inr (.inr (.inr (.inr ((va_up (va_up (va_up (va_up (va_up (va_up (fun _ => none) 0 (some (as5 0))) 1 (some (as5 2))) 2 (some (as5 4))) 3 (some (as5 6))) 4 (some (as5 8))) 5 (some (ak 0))))))))) ), (qR, .inl (k 11, ((7 : Nat), .inl (fun _ => (0 : Int32)))))] ++ (n_w D k n_l5 ak ++ (n_w D k n_X9_102 ar9 ++ n_w D k n_s5 as5))) H := hP
  have hD : va_D A ([(h0, .inr (9, [.ref (ar9 0), .ref (ar9 21), .ref (ar9 42), .int 0, .ref (ar9 63), .ref (ar9 65), .ref (ar9 68), .ref (ar9 71), .ref (ar9 97), .ref (ar9 100), .ref qS, .ref qR])), (qS, .inl (k 15, ((8 : Nat), .inr (.inr (.inr (.inr ((va_up (va_up (va_up (va_up (va_up (va_up (fun _ => none) 0 (some (as5 0))) 1 (some (as5 2))) 2 (some (as5 4))) 3 (some (as5 6))) 4 (some (as5 8))) 5 (some (ak 0))))))))) ), (qR, .inl (k 11, ((7 : Nat), .inl (fun _ => (0 : Int32)))))] ++ (n_w D k n_l5 ak ++ (n_w D k n_X9_102 ar9 ++ n_w D k n_s5 as5))) := hD
  have hP := n_P2 n_s5_n n_s5_c n_l5_c (va_P_perm hP n_perm2)
  have hD := n_D2 n_s5_n (va_D_perm hD n_perm2)
  have hP : va_P D vwCl (([(h0, .inr (9, [.ref (ar9 0), .ref (ar9 21), .ref (ar9 42), .int 0, .ref (ar9 63), .ref (ar9 65), .ref (ar9 68), .ref (ar9 71), .ref (ar9 97), .ref (ar9 100), .ref qS, .ref qR])), (qS, .inl (k 15, ((8 : Nat), .inr (.inr (.inr (.inr ((va_up (va_up (va_up (va_up (va_up (va_up (fun _ => none) 0 (some ((n_ap 10 as5 ak) 0))) 1 (some ((n_ap 10 as5 ak) 2))) 2 (some ((n_ap 10 as5 ak) 4))) 3 (some ((n_ap 10 as5 ak) 6))) 4 (some ((n_ap 10 as5 ak) 8))) 5 (some ((n_ap 10 as5 ak) 10))))))))) ), (qR, .inl (k 11, ((7 : Nat), .inl (fun _ => (0 : Int32)))))] ++ n_w D k n_X9_102 ar9) ++ n_w D k n_s6 (n_ap 10 as5 ak)) H := hP
  have hD : va_D A (([(h0, .inr (9, [.ref (ar9 0), .ref (ar9 21), .ref (ar9 42), .int 0, .ref (ar9 63), .ref (ar9 65), .ref (ar9 68), .ref (ar9 71), .ref (ar9 97), .ref (ar9 100), .ref qS, .ref qR])), (qS, .inl (k 15, ((8 : Nat), .inr (.inr (.inr (.inr ((va_up (va_up (va_up (va_up (va_up (va_up (fun _ => none) 0 (some ((n_ap 10 as5 ak) 0))) 1 (some ((n_ap 10 as5 ak) 2))) 2 (some ((n_ap 10 as5 ak) 4))) 3 (some ((n_ap 10 as5 ak) 6))) 4 (some ((n_ap 10 as5 ak) 8))) 5 (some ((n_ap 10 as5 ak) 10))))))))) ), (qR, .inl (k 11, ((7 : Nat), .inl (fun _ => (0 : Int32)))))] ++ n_w D k n_X9_102 ar9) ++ n_w D k n_s6 (n_ap 10 as5 ak)) := hD
  generalize n_ap 10 as5 ak = as6 at hP hD
  refine lv_iinc (v := 6) (lv' := [(1, .int 6), (0, .ref h0)]) hx hb dX9_init_141 hl (k := 0) rfl (by decide) (by decide) rfl (fun ls hl => ?_)
  refine lv_goto (tgt := 122) hx hb dX9_init_144 (by decide) ?_
  refine lv_iload_n hx hb dX9_init_122 rfl (lv_at hl 0 rfl) ?_
  refine lv_bipush (v := 8) hx hb dX9_init_123 (by decide) ?_
  refine lv_icmp_ge (tgt := 147) hx hb dX9_init_125 (by decide) (fun h7 => absurd h7 (by decide)) (fun _ => ?_)
  refine lv_aload_n hx hb dX9_init_128 rfl (lv_at hl 1 rfl) ?_
  refine va_get (D := D) (ci := 9) (v := .ref qS) (C := RX9) (T := TX9) (N := 12) hx hb hts uw9 hown hK.1 hP 0 rfl rfl 10 (by decide) (hts _ flX9_66) (fun _ h9 => h9) rfl dX9_init_129 ?_
  refine lv_iload_n hx hb dX9_init_132 rfl (lv_at hl 0 rfl) ?_
  refine va_new (ci := 5) (fs := [.null, .int 0, .int 0]) (C := RX5) (T := TX5) (N := 3) hx hb hts uw5 tyX5 tyX5_ok hown (hts _ clX9_64) (hts _ in_X5) (hts _ ni_X5) hK.1 hP hD hS hA rfl (fun j hj => by rcases (show j = 0 ∨ j = 1 ∨ j = 2 by omega) with rfl | rfl | rfl <;> rfl) (Nat.le_of_ble_eq_true rfl) (Nat.le_of_ble_eq_true rfl) dX9_init_133 (fun q H hP hD hS => ?_)
  have hP : va_P D vwCl ((([(h0, .inr (9, [.ref (ar9 0), .ref (ar9 21), .ref (ar9 42), .int 0, .ref (ar9 63), .ref (ar9 65), .ref (ar9 68), .ref (ar9 71), .ref (ar9 97), .ref (ar9 100), .ref qS, .ref qR])), (qS, .inl (k 15, ((8 : Nat), .inr (.inr (.inr (.inr ((va_up (va_up (va_up (va_up (va_up (va_up (fun _ => none) 0 (some (as6 0))) 1 (some (as6 2))) 2 (some (as6 4))) 3 (some (as6 6))) 4 (some (as6 8))) 5 (some (as6 10))))))))) ), (qR, .inl (k 11, ((7 : Nat), .inl (fun _ => (0 : Int32)))))] ++ n_w D k n_X9_102 ar9) ++ n_w D k n_s6 as6) ++ [(q, .inr (5, [.null, .int 0, .int 0]))]) H := hP
  have hD : va_D A ((([(h0, .inr (9, [.ref (ar9 0), .ref (ar9 21), .ref (ar9 42), .int 0, .ref (ar9 63), .ref (ar9 65), .ref (ar9 68), .ref (ar9 71), .ref (ar9 97), .ref (ar9 100), .ref qS, .ref qR])), (qS, .inl (k 15, ((8 : Nat), .inr (.inr (.inr (.inr ((va_up (va_up (va_up (va_up (va_up (va_up (fun _ => none) 0 (some (as6 0))) 1 (some (as6 2))) 2 (some (as6 4))) 3 (some (as6 6))) 4 (some (as6 8))) 5 (some (as6 10))))))))) ), (qR, .inl (k 11, ((7 : Nat), .inl (fun _ => (0 : Int32)))))] ++ n_w D k n_X9_102 ar9) ++ n_w D k n_s6 as6) ++ [(q, .inr (5, [.null, .int 0, .int 0]))]) := hD
  refine W.widen (k := 117) (n := 1268) (by omega) (by omega) ?_
  refine lv_dup hx hb dX9_init_136 rfl ?_
  have hFc := va_freeL hD hS hA
  refine va_callv (va_runIN (As := []) (rest := [.ref q, .int 6, .ref qS]) ⟨hx, hb, hml, hown, hts⟩ (n_X5_init l D k q H.size) ⟨va_cnB (ws' := j_gw) 0 hts (j_goodS cd_X5_init) rfl rfl rfl (hK.2.1 _ mlX9_74) (hts _ ni_X5) ⟨by decide, by decide, by decide +kernel⟩ ⟨(Nat.le_of_ble_eq_true rfl), (Nat.le_of_ble_eq_true rfl)⟩, rfl, hts _ im_X5_init⟩ ⟨n_blind, n_pre hK hP hD⟩ rfl rfl hl.1 rfl (lv_room (Nat.le_of_ble_eq_true rfl)) dX9_init_137 ⟨(Nat.le_of_ble_eq_true rfl), (Nat.le_of_ble_eq_true rfl)⟩) hS (fun q _ h => hFc q h) hFc (fun u t H1 locs ht hvm h5 hB hz1 hk1 hS => ?_)
  obtain ⟨ak, rfl, hP1, hD1⟩ := hB
  rw [ht] at hP1
  obtain ⟨hP, hD⟩ := va_joinL hP hD hk1 hFc hP1 hD1
  refine W.widen (k := 118) (n := 1308) (by omega) (by omega) ?_
  have hP := va_P_perm hP (n_perm1 (x := [(h0, .inr (9, [.ref (ar9 0), .ref (ar9 21), .ref (ar9 42), .int 0, .ref (ar9 63), .ref (ar9 65), .ref (ar9 68), .ref (ar9 71), .ref (ar9 97), .ref (ar9 100), .ref qS, .ref qR])), (qS, .inl (k 15, ((8 : Nat), .inr (.inr (.inr (.inr ((va_up (va_up (va_up (va_up (va_up (va_up (fun _ => none) 0 (some (as6 0))) 1 (some (as6 2))) 2 (some (as6 4))) 3 (some (as6 6))) 4 (some (as6 8))) 5 (some (as6 10))))))))) ), (qR, .inl (k 11, ((7 : Nat), .inl (fun _ => (0 : Int32)))))]) (R1 := n_w D k n_X9_102 ar9) (R2 := n_w D k n_s6 as6) (N := n_w D k n_l5 ak))
  have hD := va_D_perm hD (n_perm1 (x := [(h0, .inr (9, [.ref (ar9 0), .ref (ar9 21), .ref (ar9 42), .int 0, .ref (ar9 63), .ref (ar9 65), .ref (ar9 68), .ref (ar9 71), .ref (ar9 97), .ref (ar9 100), .ref qS, .ref qR])), (qS, .inl (k 15, ((8 : Nat), .inr (.inr (.inr (.inr ((va_up (va_up (va_up (va_up (va_up (va_up (fun _ => none) 0 (some (as6 0))) 1 (some (as6 2))) 2 (some (as6 4))) 3 (some (as6 6))) 4 (some (as6 8))) 5 (some (as6 10))))))))) ), (qR, .inl (k 11, ((7 : Nat), .inl (fun _ => (0 : Int32)))))]) (R1 := n_w D k n_X9_102 ar9) (R2 := n_w D k n_s6 as6) (N := n_w D k n_l5 ak))
  refine va_astq (r := (RX5, TX5, 3)) (v := ak 0) (vs := [.ref (ak 1), .int (-1), .int 0]) hx hb hK.1 hP hD hS 1 4 3 5 rfl rfl rfl rfl (by unfold vp_in; decide) dX9_init_140 (fun H locs hP hD hS => ?_)
  have hP : va_P D vwCl ([(h0, .inr (9, [.ref (ar9 0), .ref (ar9 21), .ref (ar9 42), .int 0, .ref (ar9 63), .ref (ar9 65), .ref (ar9 68), .ref (ar9 71), .ref (ar9 97), .ref (ar9 100), .ref qS, .ref qR])), (qS, .inl (k 15, ((8 : Nat), .inr (.inr (.inr (.inr ((va_up (va_up (va_up (va_up (va_up (va_up (va_up (fun _ => none) 0 (some (as6 0))) 1 (some (as6 2))) 2 (some (as6 4))) 3 (some (as6 6))) 4 (some (as6 8))) 5 (some (as6 10))) 6 (some (ak 0))))))))) ), (qR, .inl (k 11, ((7 : Nat), .inl (fun _ => (0 : Int32)))))] ++ (n_w D k n_l5 ak ++ (n_w D k n_X9_102 ar9 ++ n_w D k n_s6 as6))) H := hP
  have hD : va_D A ([(h0, .inr (9, [.ref (ar9 0), .ref (ar9 21), .ref (ar9 42), .int 0, .ref (ar9 63), .ref (ar9 65), .ref (ar9 68), .ref (ar9 71), .ref (ar9 97), .ref (ar9 100), .ref qS, .ref qR])), (qS, .inl (k 15, ((8 : Nat), .inr (.inr (.inr (.inr ((va_up (va_up (va_up (va_up (va_up (va_up (va_up (fun _ => none) 0 (some (as6 0))) 1 (some (as6 2))) 2 (some (as6 4))) 3 (some (as6 6))) 4 (some (as6 8))) 5 (some (as6 10))) 6 (some (ak 0))))))))) ), (qR, .inl (k 11, ((7 : Nat), .inl (fun _ => (0 : Int32)))))] ++ (n_w D k n_l5 ak ++ (n_w D k n_X9_102 ar9 ++ n_w D k n_s6 as6))) := hD
  have hP := n_P2 n_s6_n n_s6_c n_l5_c (va_P_perm hP n_perm2)
  have hD := n_D2 n_s6_n (va_D_perm hD n_perm2)
  have hP : va_P D vwCl (([(h0, .inr (9, [.ref (ar9 0), .ref (ar9 21), .ref (ar9 42), .int 0, .ref (ar9 63), .ref (ar9 65), .ref (ar9 68), .ref (ar9 71), .ref (ar9 97), .ref (ar9 100), .ref qS, .ref qR])), (qS, .inl (k 15, ((8 : Nat), .inr (.inr (.inr (.inr ((va_up (va_up (va_up (va_up (va_up (va_up (va_up (fun _ => none) 0 (some ((n_ap 12 as6 ak) 0))) 1 (some ((n_ap 12 as6 ak) 2))) 2 (some ((n_ap 12 as6 ak) 4))) 3 (some ((n_ap 12 as6 ak) 6))) 4 (some ((n_ap 12 as6 ak) 8))) 5 (some ((n_ap 12 as6 ak) 10))) 6 (some ((n_ap 12 as6 ak) 12))))))))) ), (qR, .inl (k 11, ((7 : Nat), .inl (fun _ => (0 : Int32)))))] ++ n_w D k n_X9_102 ar9) ++ n_w D k n_s7 (n_ap 12 as6 ak)) H := hP
  have hD : va_D A (([(h0, .inr (9, [.ref (ar9 0), .ref (ar9 21), .ref (ar9 42), .int 0, .ref (ar9 63), .ref (ar9 65), .ref (ar9 68), .ref (ar9 71), .ref (ar9 97), .ref (ar9 100), .ref qS, .ref qR])), (qS, .inl (k 15, ((8 : Nat), .inr (.inr (.inr (.inr ((va_up (va_up (va_up (va_up (va_up (va_up (va_up (fun _ => none) 0 (some ((n_ap 12 as6 ak) 0))) 1 (some ((n_ap 12 as6 ak) 2))) 2 (some ((n_ap 12 as6 ak) 4))) 3 (some ((n_ap 12 as6 ak) 6))) 4 (some ((n_ap 12 as6 ak) 8))) 5 (some ((n_ap 12 as6 ak) 10))) 6 (some ((n_ap 12 as6 ak) 12))))))))) ), (qR, .inl (k 11, ((7 : Nat), .inl (fun _ => (0 : Int32)))))] ++ n_w D k n_X9_102 ar9) ++ n_w D k n_s7 (n_ap 12 as6 ak)) := hD
  generalize n_ap 12 as6 ak = as7 at hP hD
  refine lv_iinc (v := 7) (lv' := [(1, .int 7), (0, .ref h0)]) hx hb dX9_init_141 hl (k := 0) rfl (by decide) (by decide) rfl (fun ls hl => ?_)
  refine lv_goto (tgt := 122) hx hb dX9_init_144 (by decide) ?_
  refine lv_iload_n hx hb dX9_init_122 rfl (lv_at hl 0 rfl) ?_
  refine lv_bipush (v := 8) hx hb dX9_init_123 (by decide) ?_
  refine lv_icmp_ge (tgt := 147) hx hb dX9_init_125 (by decide) (fun h7 => absurd h7 (by decide)) (fun _ => ?_)
  refine lv_aload_n hx hb dX9_init_128 rfl (lv_at hl 1 rfl) ?_
  refine va_get (D := D) (ci := 9) (v := .ref qS) (C := RX9) (T := TX9) (N := 12) hx hb hts uw9 hown hK.1 hP 0 rfl rfl 10 (by decide) (hts _ flX9_66) (fun _ h9 => h9) rfl dX9_init_129 ?_
  refine lv_iload_n hx hb dX9_init_132 rfl (lv_at hl 0 rfl) ?_
  refine va_new (ci := 5) (fs := [.null, .int 0, .int 0]) (C := RX5) (T := TX5) (N := 3) hx hb hts uw5 tyX5 tyX5_ok hown (hts _ clX9_64) (hts _ in_X5) (hts _ ni_X5) hK.1 hP hD hS hA rfl (fun j hj => by rcases (show j = 0 ∨ j = 1 ∨ j = 2 by omega) with rfl | rfl | rfl <;> rfl) (Nat.le_of_ble_eq_true rfl) (Nat.le_of_ble_eq_true rfl) dX9_init_133 (fun q H hP hD hS => ?_)
  have hP : va_P D vwCl ((([(h0, .inr (9, [.ref (ar9 0), .ref (ar9 21), .ref (ar9 42), .int 0, .ref (ar9 63), .ref (ar9 65), .ref (ar9 68), .ref (ar9 71), .ref (ar9 97), .ref (ar9 100), .ref qS, .ref qR])), (qS, .inl (k 15, ((8 : Nat), .inr (.inr (.inr (.inr ((va_up (va_up (va_up (va_up (va_up (va_up (va_up (fun _ => none) 0 (some (as7 0))) 1 (some (as7 2))) 2 (some (as7 4))) 3 (some (as7 6))) 4 (some (as7 8))) 5 (some (as7 10))) 6 (some (as7 12))))))))) ), (qR, .inl (k 11, ((7 : Nat), .inl (fun _ => (0 : Int32)))))] ++ n_w D k n_X9_102 ar9) ++ n_w D k n_s7 as7) ++ [(q, .inr (5, [.null, .int 0, .int 0]))]) H := hP
  have hD : va_D A ((([(h0, .inr (9, [.ref (ar9 0), .ref (ar9 21), .ref (ar9 42), .int 0, .ref (ar9 63), .ref (ar9 65), .ref (ar9 68), .ref (ar9 71), .ref (ar9 97), .ref (ar9 100), .ref qS, .ref qR])), (qS, .inl (k 15, ((8 : Nat), .inr (.inr (.inr (.inr ((va_up (va_up (va_up (va_up (va_up (va_up (va_up (fun _ => none) 0 (some (as7 0))) 1 (some (as7 2))) 2 (some (as7 4))) 3 (some (as7 6))) 4 (some (as7 8))) 5 (some (as7 10))) 6 (some (as7 12))))))))) ), (qR, .inl (k 11, ((7 : Nat), .inl (fun _ => (0 : Int32)))))] ++ n_w D k n_X9_102 ar9) ++ n_w D k n_s7 as7) ++ [(q, .inr (5, [.null, .int 0, .int 0]))]) := hD
  refine W.widen (k := 119) (n := 1311) (by omega) (by omega) ?_
  refine lv_dup hx hb dX9_init_136 rfl ?_
  have hFc := va_freeL hD hS hA
  refine va_callv (va_runIN (As := []) (rest := [.ref q, .int 7, .ref qS]) ⟨hx, hb, hml, hown, hts⟩ (n_X5_init l D k q H.size) ⟨va_cnB (ws' := j_gw) 0 hts (j_goodS cd_X5_init) rfl rfl rfl (hK.2.1 _ mlX9_74) (hts _ ni_X5) ⟨by decide, by decide, by decide +kernel⟩ ⟨(Nat.le_of_ble_eq_true rfl), (Nat.le_of_ble_eq_true rfl)⟩, rfl, hts _ im_X5_init⟩ ⟨n_blind, n_pre hK hP hD⟩ rfl rfl hl.1 rfl (lv_room (Nat.le_of_ble_eq_true rfl)) dX9_init_137 ⟨(Nat.le_of_ble_eq_true rfl), (Nat.le_of_ble_eq_true rfl)⟩) hS (fun q _ h => hFc q h) hFc (fun u t H1 locs ht hvm h5 hB hz1 hk1 hS => ?_)
  obtain ⟨ak, rfl, hP1, hD1⟩ := hB
  rw [ht] at hP1
  obtain ⟨hP, hD⟩ := va_joinL hP hD hk1 hFc hP1 hD1
  refine W.widen (k := 120) (n := 1351) (by omega) (by omega) ?_
  have hP := va_P_perm hP (n_perm1 (x := [(h0, .inr (9, [.ref (ar9 0), .ref (ar9 21), .ref (ar9 42), .int 0, .ref (ar9 63), .ref (ar9 65), .ref (ar9 68), .ref (ar9 71), .ref (ar9 97), .ref (ar9 100), .ref qS, .ref qR])), (qS, .inl (k 15, ((8 : Nat), .inr (.inr (.inr (.inr ((va_up (va_up (va_up (va_up (va_up (va_up (va_up (fun _ => none) 0 (some (as7 0))) 1 (some (as7 2))) 2 (some (as7 4))) 3 (some (as7 6))) 4 (some (as7 8))) 5 (some (as7 10))) 6 (some (as7 12))))))))) ), (qR, .inl (k 11, ((7 : Nat), .inl (fun _ => (0 : Int32)))))]) (R1 := n_w D k n_X9_102 ar9) (R2 := n_w D k n_s7 as7) (N := n_w D k n_l5 ak))
  have hD := va_D_perm hD (n_perm1 (x := [(h0, .inr (9, [.ref (ar9 0), .ref (ar9 21), .ref (ar9 42), .int 0, .ref (ar9 63), .ref (ar9 65), .ref (ar9 68), .ref (ar9 71), .ref (ar9 97), .ref (ar9 100), .ref qS, .ref qR])), (qS, .inl (k 15, ((8 : Nat), .inr (.inr (.inr (.inr ((va_up (va_up (va_up (va_up (va_up (va_up (va_up (fun _ => none) 0 (some (as7 0))) 1 (some (as7 2))) 2 (some (as7 4))) 3 (some (as7 6))) 4 (some (as7 8))) 5 (some (as7 10))) 6 (some (as7 12))))))))) ), (qR, .inl (k 11, ((7 : Nat), .inl (fun _ => (0 : Int32)))))]) (R1 := n_w D k n_X9_102 ar9) (R2 := n_w D k n_s7 as7) (N := n_w D k n_l5 ak))
  refine va_astq (r := (RX5, TX5, 3)) (v := ak 0) (vs := [.ref (ak 1), .int (-1), .int 0]) hx hb hK.1 hP hD hS 1 4 3 5 rfl rfl rfl rfl (by unfold vp_in; decide) dX9_init_140 (fun H locs hP hD hS => ?_)
  have hP : va_P D vwCl ([(h0, .inr (9, [.ref (ar9 0), .ref (ar9 21), .ref (ar9 42), .int 0, .ref (ar9 63), .ref (ar9 65), .ref (ar9 68), .ref (ar9 71), .ref (ar9 97), .ref (ar9 100), .ref qS, .ref qR])), (qS, .inl (k 15, ((8 : Nat), .inr (.inr (.inr (.inr ((va_up (va_up (va_up (va_up (va_up (va_up (va_up (va_up (fun _ => none) 0 (some (as7 0))) 1 (some (as7 2))) 2 (some (as7 4))) 3 (some (as7 6))) 4 (some (as7 8))) 5 (some (as7 10))) 6 (some (as7 12))) 7 (some (ak 0))))))))) ), (qR, .inl (k 11, ((7 : Nat), .inl (fun _ => (0 : Int32)))))] ++ (n_w D k n_l5 ak ++ (n_w D k n_X9_102 ar9 ++ n_w D k n_s7 as7))) H := hP
  have hD : va_D A ([(h0, .inr (9, [.ref (ar9 0), .ref (ar9 21), .ref (ar9 42), .int 0, .ref (ar9 63), .ref (ar9 65), .ref (ar9 68), .ref (ar9 71), .ref (ar9 97), .ref (ar9 100), .ref qS, .ref qR])), (qS, .inl (k 15, ((8 : Nat), .inr (.inr (.inr (.inr ((va_up (va_up (va_up (va_up (va_up (va_up (va_up (va_up (fun _ => none) 0 (some (as7 0))) 1 (some (as7 2))) 2 (some (as7 4))) 3 (some (as7 6))) 4 (some (as7 8))) 5 (some (as7 10))) 6 (some (as7 12))) 7 (some (ak 0))))))))) ), (qR, .inl (k 11, ((7 : Nat), .inl (fun _ => (0 : Int32)))))] ++ (n_w D k n_l5 ak ++ (n_w D k n_X9_102 ar9 ++ n_w D k n_s7 as7))) := hD
  have hP := n_P2 n_s7_n n_s7_c n_l5_c (va_P_perm hP n_perm2)
  have hD := n_D2 n_s7_n (va_D_perm hD n_perm2)
  have hP : va_P D vwCl (([(h0, .inr (9, [.ref (ar9 0), .ref (ar9 21), .ref (ar9 42), .int 0, .ref (ar9 63), .ref (ar9 65), .ref (ar9 68), .ref (ar9 71), .ref (ar9 97), .ref (ar9 100), .ref qS, .ref qR])), (qS, .inl (k 15, ((8 : Nat), .inr (.inr (.inr (.inr ((va_up (va_up (va_up (va_up (va_up (va_up (va_up (va_up (fun _ => none) 0 (some ((n_ap 14 as7 ak) 0))) 1 (some ((n_ap 14 as7 ak) 2))) 2 (some ((n_ap 14 as7 ak) 4))) 3 (some ((n_ap 14 as7 ak) 6))) 4 (some ((n_ap 14 as7 ak) 8))) 5 (some ((n_ap 14 as7 ak) 10))) 6 (some ((n_ap 14 as7 ak) 12))) 7 (some ((n_ap 14 as7 ak) 14))))))))) ), (qR, .inl (k 11, ((7 : Nat), .inl (fun _ => (0 : Int32)))))] ++ n_w D k n_X9_102 ar9) ++ n_w D k n_s8 (n_ap 14 as7 ak)) H := hP
  have hD : va_D A (([(h0, .inr (9, [.ref (ar9 0), .ref (ar9 21), .ref (ar9 42), .int 0, .ref (ar9 63), .ref (ar9 65), .ref (ar9 68), .ref (ar9 71), .ref (ar9 97), .ref (ar9 100), .ref qS, .ref qR])), (qS, .inl (k 15, ((8 : Nat), .inr (.inr (.inr (.inr ((va_up (va_up (va_up (va_up (va_up (va_up (va_up (va_up (fun _ => none) 0 (some ((n_ap 14 as7 ak) 0))) 1 (some ((n_ap 14 as7 ak) 2))) 2 (some ((n_ap 14 as7 ak) 4))) 3 (some ((n_ap 14 as7 ak) 6))) 4 (some ((n_ap 14 as7 ak) 8))) 5 (some ((n_ap 14 as7 ak) 10))) 6 (some ((n_ap 14 as7 ak) 12))) 7 (some ((n_ap 14 as7 ak) 14))))))))) ), (qR, .inl (k 11, ((7 : Nat), .inl (fun _ => (0 : Int32)))))] ++ n_w D k n_X9_102 ar9) ++ n_w D k n_s8 (n_ap 14 as7 ak)) := hD
  generalize n_ap 14 as7 ak = as8 at hP hD
  refine lv_iinc (v := 8) (lv' := [(1, .int 8), (0, .ref h0)]) hx hb dX9_init_141 hl (k := 0) rfl (by decide) (by decide) rfl (fun ls hl => ?_)
  refine lv_goto (tgt := 122) hx hb dX9_init_144 (by decide) ?_
  refine lv_iload_n hx hb dX9_init_122 rfl (lv_at hl 0 rfl) ?_
  refine lv_bipush (v := 8) hx hb dX9_init_123 (by decide) ?_
  refine lv_icmp_ge (tgt := 147) hx hb dX9_init_125 (by decide) (fun _ => ?_) (fun h7 => absurd (by decide) h7)
  exact W.vret hx hb hr (fun t ht hW => ⟨⟨(), rfl, trivial, n_a9 h0 qS qR ar9 as8, rfl, by rw [ht]; exact n_fin9 hP, n_finD9 hD⟩, hS.F ht⟩) hS.2.2 dX9_init_147
