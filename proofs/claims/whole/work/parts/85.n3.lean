/-! constructors that call one -/

def n_l0 : n_L := (0, 0) :: n_l2
theorem n_l0_n : n_l0.length = 3 := by decide +kernel
theorem n_l0_c : n_cl n_l0 = true := by decide +kernel

set_option maxRecDepth 100000 in
set_option maxHeartbeats 4000000 in
theorem n_X0_init (l : Launch) (D : va_G) (k : Nat → ClassId) (h0 sz : Nat) : Met l yX0_init (Cond.code yX0_init cX0_init 1 none :: j_gw) (n_rm 2 2 12) (n_Pre D k h0 sz (.inr (0, [.null]))) (n_Post D k h0 sz (.inr (0, [.null])) n_l0) 2 12 (va_A [(h0, .inr (0, [.null]))] sz) := by
  refine Met.ofW (cc := cX0_init) (maxL := 1) (ret := none) (by decide) rfl ?_
  intro p e s m args below meth c s₁ B hml hv
  obtain ⟨rfl, hsz, hP, hK, hD0⟩ := hv
  have hx := B.exec
  have hb := B.bytes
  have hr := B.returns
  have hts0 := atoms_spec (ws := Cond.code yX0_init cX0_init 1 none :: j_gw) B.pre
  have hts : ∀ w ∈ j_gw, w.before _ s = true := fun w hw => hts0 w (List.mem_cons_of_mem _ hw)
  have hown : s.vm.findClass RX0 = some m.cls := findClass_of_methodNamed B.named
  have hlocks := B.notSynchronized
  have hin : meth.name = "<init>" := (name_of_methodNamed B.named B.method).1
  subst hsz
  have hD := hD0.self (sz := s.heap.size)
  unfold n_Post
  generalize hAe : va_A [(h0, .inr (0, [.null]))] s.heap.size = A at hD ⊢
  have hA : ∀ q : Nat, s.heap.size ≤ q → A q := fun q h => by rw [← hAe]; exact Or.inr h
  have hS : va_S A s.heap s.heap [] := va_S.rf
  have hl := lv_entry ([.ref h0]) (n := 1) (Nat.le_of_ble_eq_true rfl)
  rw [lg_entry_eq]
  generalize (lg_sl ([.ref h0]) ++ List.replicate (1 - (lg_sl ([.ref h0])).length) Slot.unset).toArray = ls at hl ⊢
  have hl : lv_has ls 1 [(0, .ref h0)] := hl
  refine lv_aload_n hx hb dX0_init_0 rfl (lv_at hl 0 rfl) ?_
  refine W.objInit hx hb hown (hts _ mlX0_3) (hts _ im_oi) (hts _ cd_oi) rfl (by rw [hml]; exact hl.1) rfl dX0_init_1 (Nat.le_of_ble_eq_true rfl) (Nat.le_of_ble_eq_true rfl) ?_
  refine W.eq (g2 := F0 m 4 ls []) rfl ?_
  refine lv_aload_n hx hb dX0_init_4 rfl (lv_at hl 0 rfl) ?_
  refine va_new (ci := 2) (fs := [.null, .int 0, .int 0, .int 0]) (C := RX2) (T := TX2) (N := 4) hx hb hts uw2 tyX2 tyX2_ok hown (hts _ clX0_9) (hts _ in_X2) (hts _ ni_X2) hK.1 hP hD hS hA rfl (fun j hj => by rcases (show j = 0 ∨ j = 1 ∨ j = 2 ∨ j = 3 by omega) with rfl | rfl | rfl | rfl <;> rfl) (Nat.le_of_ble_eq_true rfl) (Nat.le_of_ble_eq_true rfl) dX0_init_5 (fun q H hP hD hS => ?_)
  have hP : va_P D vwCl ([(h0, .inr (0, [.null]))] ++ [(q, .inr (2, [.null, .int 0, .int 0, .int 0]))]) H := hP
  have hD : va_D A ([(h0, .inr (0, [.null]))] ++ [(q, .inr (2, [.null, .int 0, .int 0, .int 0]))]) := hD
  refine W.widen (k := 1) (n := 4) (by omega) (by omega) ?_
  refine lv_dup hx hb dX0_init_8 rfl ?_
  have hFc := va_freeL hD hS hA
  refine va_callv (va_runIN (As := []) (rest := [.ref q, .ref h0]) ⟨hx, hb, hml, hown, hts⟩ (n_X2_init l D k q H.size) ⟨va_cnB (ws' := j_gw) 0 hts (j_goodS cd_X2_init) rfl rfl rfl (hK.2.1 _ mlX0_11) (hts _ ni_X2) ⟨by decide, by decide, by decide +kernel⟩ ⟨(Nat.le_of_ble_eq_true rfl), (Nat.le_of_ble_eq_true rfl)⟩, rfl, hts _ im_X2_init⟩ ⟨n_blind, n_pre hK hP hD⟩ rfl rfl hl.1 rfl (lv_room (Nat.le_of_ble_eq_true rfl)) dX0_init_9 ⟨(Nat.le_of_ble_eq_true rfl), (Nat.le_of_ble_eq_true rfl)⟩) hS (fun q _ h => hFc q h) hFc (fun u t H1 locs ht hvm h5 hB hz1 hk1 hS => ?_)
  obtain ⟨ak, rfl, hP1, hD1⟩ := hB
  rw [ht] at hP1
  obtain ⟨hP, hD⟩ := va_joinL hP hD hk1 hFc hP1 hD1
  refine W.widen (k := 2) (n := 12) (by omega) (by omega) ?_
  refine va_putF (D := D) (ci := 0) (v := .ref (ak 0)) (ty := tyX0 0) (C := RX0) (T := TX0) (N := 1) hx hb hts uw0 tyX0 tyX0_ok nmX0 hown hK.1 hP hD hS 0 rfl rfl 0 (by decide) (hts _ flX0_12) (fun _ h9 => h9) rfl hin rfl (by decide +kernel) rfl rfl (Nat.le_of_ble_eq_true rfl) dX0_init_12 (fun H locs hP hD hS => ?_)
  obtain ⟨ar1, ea⟩ : ∃ z : Nat → Nat, z = ak := ⟨_, rfl⟩
  have hP : va_P D vwCl ((h0, .inr (0, [.ref ((ak) 0)])) :: n_w D k n_l2 (ak)) H := hP
  have hD : va_D A ((h0, .inr (0, [.ref ((ak) 0)])) :: n_w D k n_l2 (ak)) := hD
  rw [← ea] at hP hD
  clear ea
  exact W.vret hx hb hr (fun t ht hW => ⟨⟨(), rfl, trivial, n_ap 1 (fun _ => h0) ar1, rfl, by rw [ht]; exact n_P1 (c := 0) n_l2_c hP rfl, n_D1 (c := 0) hD⟩, hS.F ht⟩) hS.2.2 dX0_init_15

def n_l1 : n_L := (1, 0) :: n_l2
theorem n_l1_n : n_l1.length = 3 := by decide +kernel
theorem n_l1_c : n_cl n_l1 = true := by decide +kernel

set_option maxRecDepth 100000 in
set_option maxHeartbeats 4000000 in
theorem n_X1_init (l : Launch) (D : va_G) (k : Nat → ClassId) (h0 sz : Nat) : Met l yX1_init (Cond.code yX1_init cX1_init 1 none :: j_gw) (n_rm 2 2 12) (n_Pre D k h0 sz (.inr (1, [.null, .int 0, .int 0, .int 0, .int 0]))) (n_Post D k h0 sz (.inr (1, [.null, .int 0, .int 0, .int 0, .int 0])) n_l1) 2 12 (va_A [(h0, .inr (1, [.null, .int 0, .int 0, .int 0, .int 0]))] sz) := by
  refine Met.ofW (cc := cX1_init) (maxL := 1) (ret := none) (by decide) rfl ?_
  intro p e s m args below meth c s₁ B hml hv
  obtain ⟨rfl, hsz, hP, hK, hD0⟩ := hv
  have hx := B.exec
  have hb := B.bytes
  have hr := B.returns
  have hts0 := atoms_spec (ws := Cond.code yX1_init cX1_init 1 none :: j_gw) B.pre
  have hts : ∀ w ∈ j_gw, w.before _ s = true := fun w hw => hts0 w (List.mem_cons_of_mem _ hw)
  have hown : s.vm.findClass RX1 = some m.cls := findClass_of_methodNamed B.named
  have hlocks := B.notSynchronized
  have hin : meth.name = "<init>" := (name_of_methodNamed B.named B.method).1
  subst hsz
  have hD := hD0.self (sz := s.heap.size)
  unfold n_Post
  generalize hAe : va_A [(h0, .inr (1, [.null, .int 0, .int 0, .int 0, .int 0]))] s.heap.size = A at hD ⊢
  have hA : ∀ q : Nat, s.heap.size ≤ q → A q := fun q h => by rw [← hAe]; exact Or.inr h
  have hS : va_S A s.heap s.heap [] := va_S.rf
  have hl := lv_entry ([.ref h0]) (n := 1) (Nat.le_of_ble_eq_true rfl)
  rw [lg_entry_eq]
  generalize (lg_sl ([.ref h0]) ++ List.replicate (1 - (lg_sl ([.ref h0])).length) Slot.unset).toArray = ls at hl ⊢
  have hl : lv_has ls 1 [(0, .ref h0)] := hl
  refine lv_aload_n hx hb dX1_init_0 rfl (lv_at hl 0 rfl) ?_
  refine W.objInit hx hb hown (hts _ mlX1_3) (hts _ im_oi) (hts _ cd_oi) rfl (by rw [hml]; exact hl.1) rfl dX1_init_1 (Nat.le_of_ble_eq_true rfl) (Nat.le_of_ble_eq_true rfl) ?_
  refine W.eq (g2 := F0 m 4 ls []) rfl ?_
  refine lv_aload_n hx hb dX1_init_4 rfl (lv_at hl 0 rfl) ?_
  refine va_new (ci := 2) (fs := [.null, .int 0, .int 0, .int 0]) (C := RX2) (T := TX2) (N := 4) hx hb hts uw2 tyX2 tyX2_ok hown (hts _ clX1_9) (hts _ in_X2) (hts _ ni_X2) hK.1 hP hD hS hA rfl (fun j hj => by rcases (show j = 0 ∨ j = 1 ∨ j = 2 ∨ j = 3 by omega) with rfl | rfl | rfl | rfl <;> rfl) (Nat.le_of_ble_eq_true rfl) (Nat.le_of_ble_eq_true rfl) dX1_init_5 (fun q H hP hD hS => ?_)
  have hP : va_P D vwCl ([(h0, .inr (1, [.null, .int 0, .int 0, .int 0, .int 0]))] ++ [(q, .inr (2, [.null, .int 0, .int 0, .int 0]))]) H := hP
  have hD : va_D A ([(h0, .inr (1, [.null, .int 0, .int 0, .int 0, .int 0]))] ++ [(q, .inr (2, [.null, .int 0, .int 0, .int 0]))]) := hD
  refine W.widen (k := 1) (n := 4) (by omega) (by omega) ?_
  refine lv_dup hx hb dX1_init_8 rfl ?_
  have hFc := va_freeL hD hS hA
  refine va_callv (va_runIN (As := []) (rest := [.ref q, .ref h0]) ⟨hx, hb, hml, hown, hts⟩ (n_X2_init l D k q H.size) ⟨va_cnB (ws' := j_gw) 0 hts (j_goodS cd_X2_init) rfl rfl rfl (hK.2.1 _ mlX1_11) (hts _ ni_X2) ⟨by decide, by decide, by decide +kernel⟩ ⟨(Nat.le_of_ble_eq_true rfl), (Nat.le_of_ble_eq_true rfl)⟩, rfl, hts _ im_X2_init⟩ ⟨n_blind, n_pre hK hP hD⟩ rfl rfl hl.1 rfl (lv_room (Nat.le_of_ble_eq_true rfl)) dX1_init_9 ⟨(Nat.le_of_ble_eq_true rfl), (Nat.le_of_ble_eq_true rfl)⟩) hS (fun q _ h => hFc q h) hFc (fun u t H1 locs ht hvm h5 hB hz1 hk1 hS => ?_)
  obtain ⟨ak, rfl, hP1, hD1⟩ := hB
  rw [ht] at hP1
  obtain ⟨hP, hD⟩ := va_joinL hP hD hk1 hFc hP1 hD1
  refine W.widen (k := 2) (n := 12) (by omega) (by omega) ?_
  refine va_putF (D := D) (ci := 1) (v := .ref (ak 0)) (ty := tyX1 0) (C := RX1) (T := TX1) (N := 5) hx hb hts uw1 tyX1 tyX1_ok nmX1 hown hK.1 hP hD hS 0 rfl rfl 0 (by decide) (hts _ flX1_12) (fun _ h9 => h9) rfl hin rfl (by decide +kernel) rfl rfl (Nat.le_of_ble_eq_true rfl) dX1_init_12 (fun H locs hP hD hS => ?_)
  obtain ⟨ar1, ea⟩ : ∃ z : Nat → Nat, z = ak := ⟨_, rfl⟩
  have hP : va_P D vwCl ((h0, .inr (1, [.ref ((ak) 0), .int 0, .int 0, .int 0, .int 0])) :: n_w D k n_l2 (ak)) H := hP
  have hD : va_D A ((h0, .inr (1, [.ref ((ak) 0), .int 0, .int 0, .int 0, .int 0])) :: n_w D k n_l2 (ak)) := hD
  rw [← ea] at hP hD
  clear ea
  exact W.vret hx hb hr (fun t ht hW => ⟨⟨(), rfl, trivial, n_ap 1 (fun _ => h0) ar1, rfl, by rw [ht]; exact n_P1 (c := 1) n_l2_c hP rfl, n_D1 (c := 1) hD⟩, hS.F ht⟩) hS.2.2 dX1_init_15
