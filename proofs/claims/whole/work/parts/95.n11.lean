/-! the law's start -/
theorem va_D_L {A : Nat → Prop} {X Y : va_W} (h : va_D A (X ++ Y)) : va_D A X := by
  obtain ⟨h1, h2⟩ := va_D_iff.mp h
  rw [List.map_append] at h1
  exact va_D_iff.mpr ⟨(List.nodup_append.mp h1).1, fun x hx => h2 x (List.mem_append_left _ hx)⟩
theorem n_ΛX : n_Λ n_l9 = ΛX := Prod.ext n_l9_n rfl
theorem n_sa_in {a bK bV : Nat → Nat} {t0 i : Nat} (h : i < 1000) : n_sa a bK bV t0 i = a i := if_pos h
/-- behind the constructors: the law's state -/
theorem n_LF {p : Program} {l : Launch} {e : Env} {s : State} {m : MethodId} {below : List Frame} {meth : Method} {c : Code} {b L : Nat} {xs : Nat → Int32} {D : va_G} {k : Nat → ClassId} {ax am bK bV : Nat → Nat} {t0 : Nat} (hL : L ≤ 3072) (C0 : lw_At p s m meth c b L xs) (hK : n_K D k s) (hJ : ∀ (a : Nat → Nat) (Λ : j_L), Λ.1 ≤ 1000 → (∀ i, i < Λ.1 → s.heap.size ≤ a i) → j_K (n_G D k (n_sa a bK bV t0)) Λ s) (hD : va_D (fun q : Nat => s.heap.size ≤ q) (n_w D k n_l9 ax ++ n_wM D k am)) : LF (p, l, e, s, m, below, meth, c, b, L, xs, n_G D k (n_sa ax bK bV t0), n_G D k (n_sa am bK bV t0)) := by
  obtain ⟨hx, hb, hr, hml, hown, hts, hX, hbl, hlocks, hgv⟩ := C0
  have hlx : ∀ i, i < 121 → (n_w D k n_l9 ax ++ n_wM D k am)[i]? = some (ax i, n_en D k n_l9 ax i) := fun i hi => by
    have h1 : (n_w D k n_l9 ax)[i]? = some (ax i, n_en D k n_l9 ax i) := n_w_at (by rw [n_l9_n]; exact hi)
    rw [List.getElem?_append_left (List.getElem?_eq_some_iff.mp h1).1]
    exact h1
  have hlen : (n_w D k n_l9 ax).length = 121 := by
    unfold n_w j_wl
    rw [List.length_map, List.length_range]
    exact n_l9_n
  have hlm : ∀ i, i < 24 → (n_w D k n_l9 ax ++ n_wM D k am)[121 + i]? = some (am i, j_en (n_G D k am) ΛM n_mM i) := fun i hi => by
    have h1 : (n_wM D k am)[i]? = some (am i, j_en (n_G D k am) ΛM n_mM i) := j_at hi
    rw [List.getElem?_append_right (by omega), hlen, Nat.add_sub_cancel_left]
    exact h1
  have hax : ∀ i, i < 121 → s.heap.size ≤ ax i := fun i hi => hD.2 i _ (hlx i hi)
  have ham : ∀ i, i < 24 → s.heap.size ≤ am i := fun i hi => hD.2 _ _ (hlm i hi)
  have ex : ∀ i, i < 121 → j_ad (n_G D k (n_sa ax bK bV t0)) i = ax i := fun i hi => n_sa_in (by omega)
  have em : ∀ i, i < 24 → j_ad (n_G D k (n_sa am bK bV t0)) i = am i := fun i hi => n_sa_in (by omega)
  refine ⟨hx, hb, hml, hown, fun w hw => hts w (List.mem_filter.mp hw).1, hX, hbl, hL, hJ ax ΛX (by decide) hax, hJ am ΛM (by decide) ham, fun i j hi hj h => ?_, fun i j hi hj h => ?_, fun i hi => ?_, fun i hi => ?_, fun i j hi hj h => ?_, hr, hlocks⟩
  · rw [ex i hi, ex j hj] at h
    exact hD.1 i j _ _ (hlx i hi) (hlx j hj) h
  · rw [em i hi, em j hj] at h
    have := hD.1 _ _ _ _ (hlm i hi) (hlm j hj) h
    omega
  · rw [ex i hi]
    exact hax i hi
  · rw [em i hi]
    exact ham i hi
  · rw [ex i hi, em j hj] at h
    have := hD.1 _ _ _ _ (hlx i hi) (hlm j hj) h
    have hi : i < 121 := hi
    omega

set_option maxRecDepth 100000 in
set_option maxHeartbeats 4000000 in
/-- YOUR PART: from the entry, for every script of at most 3072 ints, the law comes to its end with true ('hflags': the launch's flags, for a law that throws: no stack traces) -/
theorem whole_start {p : Program} {e : Env} {s : State} {m : MethodId} {below : List Frame} {meth : Method} {c : Code} (l : Launch) (hflags : l.flags = flags0) {b L : Nat} {xs : Nat → Int32} (hL : L ≤ 3072) (C0 : lw_At p s m meth c b L xs) : W p l e room_1 s m #[Value.ref b] below meth c s.heap [] 0 0 (lw_Z below #[Value.ref b] s) (entryFrame m ([Value.ref b] : List Value).toArray 4) := by
  obtain ⟨hx, hb, hr, hml, hown, hts, hX, hbl, hlocks, hgv⟩ := id C0
  have hown : s.vm.findClass RL = some m.cls := hown
  have htg : ∀ w ∈ j_gw, w.before #[Value.ref b] s = true := fun w hw => hts w (List.mem_filter.mp hw).1
  have hA : ∀ q : Nat, s.heap.size ≤ q → (fun q : Nat => s.heap.size ≤ q) q := fun _ h => h
  obtain ⟨D, k, hK⟩ := n_start hts
  obtain ⟨bK, bV, t0, hJ⟩ := n_startS hts hgv hK
  have hS : va_S (fun q : Nat => s.heap.size ≤ q) s.heap s.heap [] := va_S.rf
  have hP : va_P D vwCl [] s.heap := fun k q h => by simp at h
  have hD : va_D (fun q : Nat => s.heap.size ≤ q) [] := ⟨fun i j p q h => by simp at h, fun k q h => by simp at h⟩
  have hl := lv_entry ([.ref b]) (n := 4) (Nat.le_of_ble_eq_true rfl)
  rw [lg_entry_eq]
  generalize (lg_sl ([.ref b]) ++ List.replicate (4 - (lg_sl ([.ref b])).length) Slot.unset).toArray = ls at hl ⊢
  have hl : lv_has ls 4 [(0, .ref b)] := hl
  refine va_new (ci := 9) (fs := [.null, .null, .null, .int 0, .null, .null, .null, .null, .null, .null, .null, .null]) (C := RX9) (T := TX9) (N := 12) hx hb htg uw9 tyX9 tyX9_ok hown (htg _ clL_7) (htg _ in_X9) (htg _ ni_X9) hK.1 hP hD hS hA rfl (fun j hj => by rcases (show j = 0 ∨ j = 1 ∨ j = 2 ∨ j = 3 ∨ j = 4 ∨ j = 5 ∨ j = 6 ∨ j = 7 ∨ j = 8 ∨ j = 9 ∨ j = 10 ∨ j = 11 by omega) with rfl | rfl | rfl | rfl | rfl | rfl | rfl | rfl | rfl | rfl | rfl | rfl <;> rfl) (Nat.le_of_ble_eq_true rfl) (Nat.le_of_ble_eq_true rfl) dL_law_0 (fun q H hP hD hS => ?_)
  have hP : va_P D vwCl ([] ++ [(q, .inr (9, [.null, .null, .null, .int 0, .null, .null, .null, .null, .null, .null, .null, .null]))]) H := hP
  have hD : va_D (fun q : Nat => s.heap.size ≤ q) ([] ++ [(q, .inr (9, [.null, .null, .null, .int 0, .null, .null, .null, .null, .null, .null, .null, .null]))]) := hD
  refine W.widen (k := 1) (n := 12) (by omega) (by omega) ?_
  refine lv_dup hx hb dL_law_3 rfl ?_
  have hFc := va_freeL hD hS hA
  refine va_callv (va_runI (As := []) (rest := [.ref q]) ⟨hx, hb, hml, hown, htg⟩ (n_X9_init l D k q H.size) ⟨callB_of (ws' := j_gw) 0 htg (j_goodS cd_X9_init) rfl rfl rfl (htg _ ni_X9) (htg _ mlL_9) ⟨by decide, by decide, by decide +kernel⟩ ⟨(Nat.le_of_ble_eq_true rfl), (Nat.le_of_ble_eq_true rfl)⟩, rfl, htg _ im_X9_init⟩ ⟨n_blind, n_pre hK hP hD⟩ rfl rfl hl.1 rfl (lv_room (Nat.le_of_ble_eq_true rfl)) dL_law_4 ⟨(Nat.le_of_ble_eq_true rfl), (Nat.le_of_ble_eq_true rfl)⟩) hS (fun q _ h => hFc q h) hFc (fun u t H1 locs ht hvm h5 hB hz1 hk1 hS => ?_)
  obtain ⟨ax, rfl, hP1, hD1⟩ := hB
  rw [ht] at hP1
  obtain ⟨hP, hD⟩ := va_joinL hP hD hk1 hFc hP1 hD1
  have hP : va_P D vwCl (n_w D k n_l9 ax) H1 := hP
  have hD : va_D (fun q : Nat => s.heap.size ≤ q) (n_w D k n_l9 ax) := hD
  refine W.widen (k := 121) (n := 1363) (by omega) (by omega) ?_
  refine lv_astore_n (lv' := [(1, .ref (ax 0)), (0, .ref b)]) hx hb dL_law_7 rfl hl (by decide) rfl (fun ls hl => ?_)
  refine va_new (ci := 10) (fs := [.null, .int 0, .null, .null, .null, .null, .null, .null, .null, .int 0, .int 0, .int 0, .null, .int 0, .int 0, .int 0, .int 0, .null, .null, .null, .null, .int 0, .null, .null, .null, .int 0, .null, .null, .null, .null, .null, .null, .null]) (C := RX10) (T := TX10) (N := 33) hx hb htg uw10 tyX10 tyX10_ok hown (htg _ clL_10) (htg _ in_X10) (htg _ ni_X10) hK.1 hP hD hS hA rfl (fun j hj => by rcases (show j = 0 ∨ j = 1 ∨ j = 2 ∨ j = 3 ∨ j = 4 ∨ j = 5 ∨ j = 6 ∨ j = 7 ∨ j = 8 ∨ j = 9 ∨ j = 10 ∨ j = 11 ∨ j = 12 ∨ j = 13 ∨ j = 14 ∨ j = 15 ∨ j = 16 ∨ j = 17 ∨ j = 18 ∨ j = 19 ∨ j = 20 ∨ j = 21 ∨ j = 22 ∨ j = 23 ∨ j = 24 ∨ j = 25 ∨ j = 26 ∨ j = 27 ∨ j = 28 ∨ j = 29 ∨ j = 30 ∨ j = 31 ∨ j = 32 by omega) with rfl | rfl | rfl | rfl | rfl | rfl | rfl | rfl | rfl | rfl | rfl | rfl | rfl | rfl | rfl | rfl | rfl | rfl | rfl | rfl | rfl | rfl | rfl | rfl | rfl | rfl | rfl | rfl | rfl | rfl | rfl | rfl | rfl <;> rfl) (Nat.le_of_ble_eq_true rfl) (Nat.le_of_ble_eq_true rfl) dL_law_8 (fun q H hP hD hS => ?_)
  refine W.widen (k := 122) (n := 1396) (by omega) (by omega) ?_
  refine lv_dup hx hb dL_law_11 rfl ?_
  have hFc := va_freeL hD hS hA
  refine va_callv (va_runI (As := []) (rest := [.ref q]) ⟨hx, hb, hml, hown, htg⟩ (n_X10_init l D k q H.size) ⟨callB_of (ws' := j_gw) 0 htg (j_goodS cd_X10_init) rfl rfl rfl (htg _ ni_X10) (htg _ mlL_12) ⟨by decide, by decide, by decide +kernel⟩ ⟨(Nat.le_of_ble_eq_true rfl), (Nat.le_of_ble_eq_true rfl)⟩, rfl, htg _ im_X10_init⟩ ⟨n_blind, n_pre hK hP hD⟩ rfl rfl hl.1 rfl (lv_room (Nat.le_of_ble_eq_true rfl)) dL_law_12 ⟨(Nat.le_of_ble_eq_true rfl), (Nat.le_of_ble_eq_true rfl)⟩) hS (fun q _ h => hFc q h) hFc (fun u t H1 locs ht hvm h5 hB hz1 hk1 hS => ?_)
  obtain ⟨am, rfl, hP1, hD1⟩ := hB
  rw [ht] at hP1
  obtain ⟨hP, hD⟩ := va_joinL hP hD hk1 hFc hP1 hD1
  refine W.widen (k := 145) (n := 2430) (by omega) (by omega) ?_
  refine lv_astore_n (lv' := [(2, .ref (am 0)), (1, .ref (ax 0)), (0, .ref b)]) hx hb dL_law_15 rfl hl (by decide) rfl (fun ls hl => ?_)
  refine lv_iconst (v := nI 0) hx hb dL_law_16 (by decide) ?_
  refine lv_istore_n (lv' := [(3, .int (nI 0)), (2, .ref (am 0)), (1, .ref (ax 0)), (0, .ref b)]) hx hb dL_law_17 rfl hl (by decide) rfl (fun ls hl => ?_)
  have F := n_LF (l := l) (e := e) (below := below) hL C0 hK hJ hD
  have hPx : j_P (n_G D k (n_sa ax bK bV t0)) ΛX (n_m n_l9) H1 := by
    have h1 : va_P D vwCl (j_wl (n_G D k ax) ΛX (n_m n_l9)) H1 := by
      rw [← n_ΛX]
      exact va_P_mem hP (fun _ hx => List.mem_append_left _ hx)
    exact n_re2 n_cloX (fun i hi => n_sa_in (Nat.lt_trans hi (by decide))) h1
  have hPm : j_P (n_G D k (n_sa am bK bV t0)) ΛM n_mM H1 := by
    have h1 : va_P D vwCl (j_wl (n_G D k am) ΛM n_mM) H1 := va_P_mem hP (fun _ hx => List.mem_append_right _ hx)
    exact n_re2 n_cloM (fun i hi => n_sa_in (Nat.lt_trans hi (by decide))) h1
  exact law_loop F hL L 0 (n_m n_l9) n_mM (Nat.le_of_eq (Nat.zero_add L).symm) (Nat.zero_le _) MI_0 Rel_0 H1 locs ls hPx hPm hS hl
