/-! String constants -/
section str
variable {X : j_X} {post : j_ps} {pc : Nat} {lo : j_lo} {st : List Value} {μ : j_M} {cc : ByteArray} {own : String} {d : Nat} {rt : Option FieldType} {Λ : j_L}
theorem v_ldcS (F : Fx X cc own d rt Λ) {tx : String} {idx j : Nat} (hd : decode cc pc = .ok (.ldc idx, 2)) (hm : (own, idx, tx, j) ∈ j_strs) (k : V X post (pc + 2) lo (.ref (1000 + j) :: st) μ) : V X post pc lo st μ := by
  obtain ⟨p, l, e, R, s, m, args, below, meth, kc, G, Λ', nL⟩ := X
  obtain ⟨hx, hb, hml, hown, hts, hK, hlk, hok, hR, hr, hL⟩ := F
  subst hL
  intro H locs ls hP hS hl
  exact va_ldcS hx hb hown (hK.2.2.2.1 _ hm) hd (k H locs ls hP hS hl)
theorem v_strC (F : Fx X cc RJ0 d rt Λ) {j : Nat} (hd : decode cc pc = .ok (.getfield 15, 3)) (hj : j < 6) (k : V X post (pc + 3) lo (.int (nI 0) :: st) μ) : V X post pc lo (.ref (1000 + j) :: st) μ := by
  obtain ⟨p, l, e, R, s, m, args, below, meth, kc, G, Λ', nL⟩ := X
  obtain ⟨hx, hb, hml, hown, hts, hK, hlk, hok, hR, hr, hL⟩ := F
  subst hL
  intro H locs ls hP hS hl
  exact vk_getf hx hb (hK.2.2.1.1 j hj).2.1 hS hown (hts _ flJ0_15) (fun _ h => h) hd (k H locs ls hP hS hl)
theorem v_strV (F : Fx X cc RJ0 d rt Λ) {j : Nat} (hd : decode cc pc = .ok (.getfield 9, 3)) (hj : j < 6) (k : V X post (pc + 3) lo (.ref (2000 + j) :: st) μ) : V X post pc lo (.ref (1000 + j) :: st) μ := by
  obtain ⟨p, l, e, R, s, m, args, below, meth, kc, G, Λ', nL⟩ := X
  obtain ⟨hx, hb, hml, hown, hts, hK, hlk, hok, hR, hr, hL⟩ := F
  subst hL
  intro H locs ls hP hS hl
  exact vk_getf hx hb (hK.2.2.1.1 j hj).2.2.1 hS hown (hts _ flJ0_9) (fun _ h => h) hd (k H locs ls hP hS hl)
theorem v_strL (F : Fx X cc own d rt Λ) {j : Nat} (hd : decode cc pc = .ok (.arraylength, 1)) (hj : j < 6) (k : V X post (pc + 1) lo (.int (nI (j_len.getD j 0)) :: st) μ) : V X post pc lo (.ref (2000 + j) :: st) μ := by
  obtain ⟨p, l, e, R, s, m, args, below, meth, kc, G, Λ', nL⟩ := X
  obtain ⟨hx, hb, hml, hown, hts, hK, hlk, hok, hR, hr, hL⟩ := F
  subst hL
  intro H locs ls hP hS hl
  exact va_tlen hx hb (hK.2.2.1.1 j hj).2.2.2 hS rfl hd (k H locs ls hP hS hl)
theorem v_strB (F : Fx X cc own d rt Λ) {j k0 : Nat} (hd : decode cc pc = .ok (.baload, 1)) (hj : j < 6) (hk : k0 < j_len.getD j 0) (k : V X post (pc + 1) lo (.int ((j_byt.getD j []).getD k0 0) :: st) μ) : V X post pc lo (.int (nI k0) :: .ref (2000 + j) :: st) μ := by
  obtain ⟨p, l, e, R, s, m, args, below, meth, kc, G, Λ', nL⟩ := X
  obtain ⟨hx, hb, hml, hown, hts, hK, hlk, hok, hR, hr, hL⟩ := F
  subst hL
  intro H locs ls hP hS hl
  have hj2 : j_len.getD j 0 ≤ 6 := by
    have : ∀ j, j < 6 → j_len.getD j 0 ≤ 6 := by decide +kernel
    exact this j hj
  have e : (nI k0).toNatClampNeg = k0 := ix_nI (by omega)
  refine va_tb hx hb (hK.2.2.1.1 j hj).2.2.2 hS (i := nI k0) ?_ (v := .int ((j_byt.getD j []).getD k0 0)) (by rw [e]) hd (k H locs ls hP hS hl)
  rintro (h | h)
  · exact nI_pos (by omega) h
  · rw [e] at h; omega
theorem v_gsC (F : Fx X cc RJ0 d rt Λ) (hd : decode cc pc = .ok (.getstatic 38, 3)) (k : V X post (pc + 3) lo (.int (nI 1) :: st) μ) : V X post pc lo st μ := by
  obtain ⟨p, l, e, R, s, m, args, below, meth, kc, G, Λ', nL⟩ := X
  obtain ⟨hx, hb, hml, hown, hts, hK, hlk, hok, hR, hr, hL⟩ := F
  subst hL
  intro H locs ls hP hS hl
  exact va_gets hx hb hK.2.2.2.2.1 hS hown (hts _ flJ0_38) (fun _ h => h) hd (k H locs ls hP hS hl)
theorem v_gsF (F : Fx X cc RJ0 d rt Λ) (hd : decode cc pc = .ok (.getstatic 1053, 3)) (k : V X post (pc + 3) lo (.null :: st) μ) (k2 : V X post (pc + 3) lo (.ref 3000 :: st) μ) : V X post pc lo st μ := by
  obtain ⟨p, l, e, R, s, m, args, below, meth, kc, G, Λ', nL⟩ := X
  obtain ⟨hx, hb, hml, hown, hts, hK, hlk, hok, hR, hr, hL⟩ := F
  subst hL
  intro H locs ls hP hS hl
  rcases hK.2.2.2.2.2 with h | h
  · exact va_gets hx hb h hS hown (hts _ flJ0_1053) (fun _ h => h) hd (k H locs ls hP hS hl)
  · exact va_gets hx hb h hS hown (hts _ flJ0_1053) (fun _ h => h) hd (k2 H locs ls hP hS hl)
theorem v_i2c (F : Fx X cc own d rt Λ) {x : Int32} (hd : decode cc pc = .ok (.i2c, 1)) (k : V X post (pc + 1) lo (.int (x.toUInt32 % 65536).toInt32 :: st) μ) : V X post pc lo (.int x :: st) μ := by
  obtain ⟨p, l, e, R, s, m, args, below, meth, kc, G, Λ', nL⟩ := X
  obtain ⟨hx, hb, hml, hown, hts, hK, hlk, hok, hR, hr, hL⟩ := F
  subst hL
  intro H locs ls hP hS hl
  exact lv_i2c hx hb hd rfl (k H locs ls hP hS hl)
theorem v_callT (F : Fx X cc own d rt Λ) {y : MethodName} {cy : ByteArray} {ny n idx d' b : Nat} {ry : Option FieldType} {As rest st : List Value} {post' : j_ps} (hm : j_my y cy ny ry n) (hi : j_mk own idx y) (hs : Cond.instanceMethod y ∈ j_gw) (he : Cond.selects y.cls y y ∈ j_gw) (hd : decode cc pc = .ok (.invokevirtual idx, 3))
    (hq1 : y.cls = "java/lang/String") (hb6 : b < 6) (hC : Ct y cy ny ry d' Λ (.ref (1000 + b) :: As) μ post') (hr : d' + 1 ≤ d) (hn : As.length = n) (hst : st = As.reverse ++ .ref (1000 + b) :: rest) (hw : (rest.map fun v => v.category).sum ≤ 8) (k : ∀ r μ', post' r μ' → V X post (pc + 3) lo (r.toList ++ rest) μ') : V X post pc lo st μ := by
  obtain ⟨p, l, e, R, s, m, args, below, meth, kc, G, Λ', nL⟩ := X
  obtain ⟨hx, hb, hml, hown, hts, hK, hlk, hok, rfl, hret, hL⟩ := F
  subst hL; subst hst
  intro H locs ls hP hS hl
  obtain ⟨m1, m2, m3, m4, m5⟩ := hm
  have hbl : FrameBlind (j_Pc G Λ' (.ref (1000 + b) :: As) μ) := j_blind
  have hrecv := vk_recv hK.2.2.1 hb6 hS
  rw [← hq1] at hrecv
  have hps : PreV s H y.cls (j_ad G (1000 + b)) (j_Pc G Λ' (.ref (1000 + b) :: As) μ) (As.map (j_cz G)) := ⟨hbl, hrecv, fun U hU hW => j_pre hP hS hK hU hW⟩
  have hG : GoodIn j_gw (Cond.code y cy ny ry :: j_gw) := j_goodS m1
  have hstk : (As.reverse ++ .ref (1000 + b) :: rest).map (j_cz G) = (As.map (j_cz G)).reverse ++ .ref (j_ad G (1000 + b)) :: rest.map (j_cz G) := by simp [j_cz]
  rcases hi with g | ⟨host, g⟩
  · exact j_goes (va_runV (C := y.cls) ⟨hx, hb, hml, hown, hts⟩ (hC l G hok) ⟨callB_of (ws' := j_gw) n hts hG rfl rfl rfl (hts _ m2) (hts _ g) ⟨m3.1, m3.2, m4⟩ (j_room hr m5), hts _ hs, hts _ he⟩ hps rfl (by rw [List.length_map]; exact hn) hl.1 hstk (lv_room (by rw [j_cz_sum]; exact hw)) hd ⟨Nat.le_refl _, Nat.le_refl _⟩) hS hl k
  · exact j_goes (va_runVN (C := y.cls) ⟨hx, hb, hml, hown, hts⟩ (hC l G hok) ⟨va_cnB (ws' := j_gw) n hts hG rfl rfl rfl (hK.2.1 _ g) (hts _ m2) ⟨m3.1, m3.2, m4⟩ (j_room hr m5), hts _ hs, hts _ he⟩ hps rfl (by rw [List.length_map]; exact hn) hl.1 hstk (lv_room (by rw [j_cz_sum]; exact hw)) hd ⟨Nat.le_refl _, Nat.le_refl _⟩) hS hl k
theorem v_callTI (F : Fx X cc own d rt Λ) {y : MethodName} {cy : ByteArray} {ny n idx d' b : Nat} {ry : Option FieldType} {As rest st : List Value} {f : Int32 → j_M → Prop} (hm : j_my y cy ny ry n) (hi : j_mk own idx y) (hs : Cond.instanceMethod y ∈ j_gw) (he : Cond.selects y.cls y y ∈ j_gw) (hd : decode cc pc = .ok (.invokevirtual idx, 3))
    (hq1 : y.cls = "java/lang/String") (hb6 : b < 6) (hC : Ct y cy ny ry d' Λ (.ref (1000 + b) :: As) μ (pI f)) (hr : d' + 1 ≤ d) (hn : As.length = n) (hst : st = As.reverse ++ .ref (1000 + b) :: rest) (hw : (rest.map fun v => v.category).sum ≤ 8) (k : ∀ x μ', f x μ' → V X post (pc + 3) lo (.int x :: rest) μ') : V X post pc lo st μ :=
  v_callT F hm hi hs he hd hq1 hb6 hC hr hn hst hw (fun r μ' hp => by obtain ⟨x, rfl, hx⟩ := hp; exact k x μ' hx)
end str
theorem j_lenb {j : Nat} (h : j < 6) : j_len.getD j 0 ≤ 6 := by
  have : ∀ j, j < 6 → j_len.getD j 0 ≤ 6 := by decide +kernel
  exact this j h
theorem j_sh0 {z : Nat} (h : z ≤ 6) : (nI z >>> (nI 0 &&& 31)) = nI z := by
  have : ∀ z, z < 7 → (nI z >>> (nI 0 &&& 31)) = nI z := by decide +kernel
  exact this z (by omega)
theorem j_bytv {j k : Nat} (h : j < 6) (hk : k < j_len.getD j 0) : (((j_byt.getD j []).getD k 0 &&& 255).toUInt32 % 65536).toInt32 = (j_byt.getD j []).getD k 0 ∧ narrow .char (.int ((j_byt.getD j []).getD k 0)) = .int ((j_byt.getD j []).getD k 0) := by
  have key : ∀ j, j < 6 → ∀ k, k < j_len.getD j 0 → (((j_byt.getD j []).getD k 0 &&& 255).toUInt32 % 65536).toInt32 = (j_byt.getD j []).getD k 0 ∧ narrow .char (.int ((j_byt.getD j []).getD k 0)) = .int ((j_byt.getD j []).getD k 0) := by decide +kernel
  exact key j h k hk

set_option maxRecDepth 100000 in
theorem c_J0_coder (Λ : j_L) (j : Nat) (hj : j < 6) (μ : j_M) : Ct yJ0_coder_7d493 cJ0_coder_7d493 1 (some .byte) 0 Λ [.ref (1000 + j)] μ (pI fun r μ2 => r = (nI 0) ∧ μ2 = μ) := by
  refine Ct.go (lo := [some (.ref (1000 + j))]) (by decide) (Nat.le_of_ble_eq_true rfl) rfl rfl (fun X F => ?_)
  have F : Fx X cJ0_coder_7d493 RJ0 0 (some .byte) Λ := F
  refine v_gsC (pc := 0) F dJ0_coder_7d493_0 ?_
  refine v_if_eq (pc := 3) (tgt := 13) F dJ0_coder_7d493_3 (by decide) (fun h3_1 => ?_) (fun h3_1 => ?_)
  · rw [j_eq0 (by omega)] at h3_1
    exact absurd h3_1 (by decide)
  · rw [j_eq0 (by omega)] at h3_1
    refine v_aload_n (pc := 6) (i := 0) F dJ0_coder_7d493_6 rfl rfl ?_
    refine v_strC (pc := 7) F dJ0_coder_7d493_7 hj ?_
    refine v_goto (pc := 10) (tgt := 14) F dJ0_coder_7d493_10 (by decide) ?_
    refine v_ireturn (pc := 14) F dJ0_coder_7d493_14 (rfl) ?_
    exact ⟨rfl, rfl⟩

set_option maxRecDepth 100000 in
theorem c_J0_isLatin1 (Λ : j_L) (j : Nat) (hj : j < 6) (μ : j_M) : Ct yJ0_isLatin1_aae02 cJ0_isLatin1_aae02 1 (some .boolean) 0 Λ [.ref (1000 + j)] μ (pI fun r μ2 => r = (nI 1) ∧ μ2 = μ) := by
  refine Ct.go (lo := [some (.ref (1000 + j))]) (by decide) (Nat.le_of_ble_eq_true rfl) rfl rfl (fun X F => ?_)
  have F : Fx X cJ0_isLatin1_aae02 RJ0 0 (some .boolean) Λ := F
  refine v_gsC (pc := 0) F dJ0_isLatin1_aae02_0 ?_
  refine v_if_eq (pc := 3) (tgt := 17) F dJ0_isLatin1_aae02_3 (by decide) (fun h3_1 => ?_) (fun h3_1 => ?_)
  · rw [j_eq0 (by omega)] at h3_1
    exact absurd h3_1 (by decide)
  · rw [j_eq0 (by omega)] at h3_1
    refine v_aload_n (pc := 6) (i := 0) F dJ0_isLatin1_aae02_6 rfl rfl ?_
    refine v_strC (pc := 7) F dJ0_isLatin1_aae02_7 hj ?_
    refine v_if_ne (pc := 10) (tgt := 17) F dJ0_isLatin1_aae02_10 (by decide) (fun h10_2 => ?_) (fun h10_2 => ?_)
    · rw [j_eq0 (by omega)] at h10_2
      exact absurd h10_2 (by decide)
    · rw [j_eq0 (by omega)] at h10_2
      refine v_iconst (pc := 13) (v := nI 1) F dJ0_isLatin1_aae02_13 (by decide) ?_
      refine v_goto (pc := 14) (tgt := 18) F dJ0_isLatin1_aae02_14 (by decide) ?_
      refine v_ireturn (pc := 18) F dJ0_isLatin1_aae02_18 (rfl) ?_
      exact ⟨rfl, rfl⟩

set_option maxRecDepth 100000 in
theorem c_J0_length (Λ : j_L) (j : Nat) (hj : j < 6) (μ : j_M) : Ct yJ0_length_8abf5 cJ0_length_8abf5 1 (some .int) 1 Λ [.ref (1000 + j)] μ (pI fun r μ2 => r = (nI (j_len.getD j 0)) ∧ μ2 = μ) := by
  refine Ct.go (lo := [some (.ref (1000 + j))]) (by decide) (Nat.le_of_ble_eq_true rfl) rfl rfl (fun X F => ?_)
  have F : Fx X cJ0_length_8abf5 RJ0 1 (some .int) Λ := F
  refine v_aload_n (pc := 0) (i := 0) F dJ0_length_8abf5_0 rfl rfl ?_
  refine v_strV (pc := 1) F dJ0_length_8abf5_1 hj ?_
  refine v_strL (pc := 4) F dJ0_length_8abf5_4 hj ?_
  refine v_aload_n (pc := 5) (i := 0) F dJ0_length_8abf5_5 rfl rfl ?_
  refine v_callTI (pc := 6) (As := []) (rest := [_]) (b := j) F mJ0_coder_7d493 kJ0_335 im_J0_coder_7d493 se_J0_coder_7d493 dJ0_length_8abf5_6 rfl hj (c_J0_coder _ j hj _) (by decide) rfl rfl (Nat.le_of_ble_eq_true rfl) (fun x1 μ1 hp1 => ?_)
  rw [hp1.1, hp1.2]
  refine v_ishr (pc := 9) F dJ0_length_8abf5_9 ?_
  refine v_topE (y := nI ((j_len.getD j 0))) (j_sh0 (j_lenb hj)) ?_
  refine v_ireturn (pc := 10) F dJ0_length_8abf5_10 (rfl) ?_
  exact ⟨rfl, rfl⟩

set_option maxRecDepth 100000 in
theorem c_J3_checkN (Λ : j_L) (i n : Nat) (hi : i < n) (hn : n < 2 ^ 31) (μ : j_M) : Ct yJ3_checkIndex_8e157 cJ3_checkIndex_8e157 3 (some .int) 0 Λ [.int (nI i), .int (nI n), .null] μ (pI fun r μ2 => r = (nI i) ∧ μ2 = μ) := by
  refine Ct.go (lo := [some (.int (nI i)), some (.int (nI n)), some (.null)]) (by decide) (Nat.le_of_ble_eq_true rfl) rfl rfl (fun X F => ?_)
  have F : Fx X cJ3_checkIndex_8e157 RJ3 0 (some .int) Λ := F
  refine v_iload_n (pc := 0) (i := 0) F dJ3_checkIndex_8e157_0 rfl rfl ?_
  refine v_if_lt (pc := 1) (tgt := 9) F dJ3_checkIndex_8e157_1 (by decide) (fun h1_1 => ?_) (fun h1_1 => ?_)
  · rw [j_lt0 (by omega)] at h1_1
    exact h1_1.elim
  · rw [j_lt0 (by omega)] at h1_1
    refine v_iload_n (pc := 4) (i := 0) F dJ3_checkIndex_8e157_4 rfl rfl ?_
    refine v_iload_n (pc := 5) (i := 1) F dJ3_checkIndex_8e157_5 rfl rfl ?_
    refine v_icmp_lt (pc := 6) (tgt := 16) F dJ3_checkIndex_8e157_6 (by decide) (fun h6_2 => ?_) (fun h6_2 => ?_)
    · rw [nI_ltI (by omega) (by omega)] at h6_2
      refine v_iload_n (pc := 16) (i := 0) F dJ3_checkIndex_8e157_16 rfl rfl ?_
      refine v_ireturn (pc := 17) F dJ3_checkIndex_8e157_17 (rfl) ?_
      exact ⟨rfl, rfl⟩
    · rw [nI_ltI (by omega) (by omega)] at h6_2
      omega

set_option maxRecDepth 100000 in
theorem c_J3_checkR (Λ : j_L) (i n : Nat) (hi : i < n) (hn : n < 2 ^ 31) (μ : j_M) : Ct yJ3_checkIndex_8e157 cJ3_checkIndex_8e157 3 (some .int) 0 Λ [.int (nI i), .int (nI n), .ref 3000] μ (pI fun r μ2 => r = (nI i) ∧ μ2 = μ) := by
  refine Ct.go (lo := [some (.int (nI i)), some (.int (nI n)), some (.ref 3000)]) (by decide) (Nat.le_of_ble_eq_true rfl) rfl rfl (fun X F => ?_)
  have F : Fx X cJ3_checkIndex_8e157 RJ3 0 (some .int) Λ := F
  refine v_iload_n (pc := 0) (i := 0) F dJ3_checkIndex_8e157_0 rfl rfl ?_
  refine v_if_lt (pc := 1) (tgt := 9) F dJ3_checkIndex_8e157_1 (by decide) (fun h1_1 => ?_) (fun h1_1 => ?_)
  · rw [j_lt0 (by omega)] at h1_1
    exact h1_1.elim
  · rw [j_lt0 (by omega)] at h1_1
    refine v_iload_n (pc := 4) (i := 0) F dJ3_checkIndex_8e157_4 rfl rfl ?_
    refine v_iload_n (pc := 5) (i := 1) F dJ3_checkIndex_8e157_5 rfl rfl ?_
    refine v_icmp_lt (pc := 6) (tgt := 16) F dJ3_checkIndex_8e157_6 (by decide) (fun h6_2 => ?_) (fun h6_2 => ?_)
    · rw [nI_ltI (by omega) (by omega)] at h6_2
      refine v_iload_n (pc := 16) (i := 0) F dJ3_checkIndex_8e157_16 rfl rfl ?_
      refine v_ireturn (pc := 17) F dJ3_checkIndex_8e157_17 (rfl) ?_
      exact ⟨rfl, rfl⟩
    · rw [nI_ltI (by omega) (by omega)] at h6_2
      omega

set_option maxRecDepth 100000 in
theorem c_J0_check (Λ : j_L) (i n : Nat) (hi : i < n) (hn : n < 2 ^ 31) (μ : j_M) : Ct yJ0_checkIndex_df160 cJ0_checkIndex_df160 2 none 1 Λ [.int (nI i), .int (nI n)] μ (pV fun μ2 => μ2 = μ) := by
  refine Ct.go (lo := [some (.int (nI i)), some (.int (nI n))]) (by decide) (Nat.le_of_ble_eq_true rfl) rfl rfl (fun X F => ?_)
  have F : Fx X cJ0_checkIndex_df160 RJ0 1 none Λ := F
  refine v_iload_n (pc := 0) (i := 0) F dJ0_checkIndex_df160_0 rfl rfl ?_
  refine v_iload_n (pc := 1) (i := 1) F dJ0_checkIndex_df160_1 rfl rfl ?_
  refine v_gsF (pc := 2) F dJ0_checkIndex_df160_2 ?_ ?_
  · skip
    refine v_callSI (pc := 5) (As := [_, _, _]) (rest := []) F mJ3_checkIndex_8e157 kJ0_1059 sm_J3_checkIndex_8e157 dJ0_checkIndex_df160_5 (c_J3_checkN _ i n hi hn _) (by decide) rfl rfl (Nat.le_of_ble_eq_true rfl) (fun x1 μ1 hp1 => ?_)
    rw [hp1.1, hp1.2]
    refine v_pop (pc := 8) F dJ0_checkIndex_df160_8 rfl ?_
    refine v_return (pc := 9) F dJ0_checkIndex_df160_9 ?_
    rfl
  · skip
    refine v_callSI (pc := 5) (As := [_, _, _]) (rest := []) F mJ3_checkIndex_8e157 kJ0_1059 sm_J3_checkIndex_8e157 dJ0_checkIndex_df160_5 (c_J3_checkR _ i n hi hn _) (by decide) rfl rfl (Nat.le_of_ble_eq_true rfl) (fun x2 μ2 hp2 => ?_)
    rw [hp2.1, hp2.2]
    refine v_pop (pc := 8) F dJ0_checkIndex_df160_8 rfl ?_
    refine v_return (pc := 9) F dJ0_checkIndex_df160_9 ?_
    rfl

set_option maxRecDepth 100000 in
theorem c_J1_charAt (Λ : j_L) (j k : Nat) (hj : j < 6) (hk : k < j_len.getD j 0) (μ : j_M) : Ct yJ1_charAt_3b067 cJ1_charAt_3b067 2 (some .char) 2 Λ [.ref (2000 + j), .int (nI k)] μ (pI fun r μ2 => r = ((j_byt.getD j []).getD k 0) ∧ μ2 = μ) := by
  refine Ct.go (lo := [some (.ref (2000 + j)), some (.int (nI k))]) (by decide) (Nat.le_of_ble_eq_true rfl) rfl rfl (fun X F => ?_)
  have F : Fx X cJ1_charAt_3b067 RJ1 2 (some .char) Λ := F
  have hl6 := j_lenb hj
  refine v_iload_n (pc := 0) (i := 1) F dJ1_charAt_3b067_0 rfl rfl ?_
  refine v_aload_n (pc := 1) (i := 0) F dJ1_charAt_3b067_1 rfl rfl ?_
  refine v_strL (pc := 2) F dJ1_charAt_3b067_2 hj ?_
  refine v_callSV (pc := 3) (As := [_, _]) (rest := []) F mJ0_checkIndex_df160 kJ1_9 sm_J0_checkIndex_df160 dJ1_charAt_3b067_3 (c_J0_check _ k ((j_len.getD j 0)) (by omega) (by omega) _) (by decide) rfl rfl (Nat.le_of_ble_eq_true rfl) (fun μ1 hp1 => ?_)
  rw [hp1]
  refine v_aload_n (pc := 6) (i := 0) F dJ1_charAt_3b067_6 rfl rfl ?_
  refine v_iload_n (pc := 7) (i := 1) F dJ1_charAt_3b067_7 rfl rfl ?_
  refine v_strB (pc := 8) (k0 := k) F dJ1_charAt_3b067_8 hj (hk) ?_
  refine v_sipush (pc := 9) (v := nI 255) F dJ1_charAt_3b067_9 (by decide) ?_
  refine v_iand (pc := 12) F dJ1_charAt_3b067_12 ?_
  refine v_i2c (pc := 13) F dJ1_charAt_3b067_13 ?_
  refine v_topE (y := ((j_byt.getD j []).getD k 0)) ((j_bytv hj hk).1) ?_
  refine v_ireturn (pc := 14) F dJ1_charAt_3b067_14 ((j_bytv hj hk).2) ?_
  exact ⟨rfl, rfl⟩

set_option maxRecDepth 100000 in
theorem c_J0_charAt (Λ : j_L) (j k : Nat) (hj : j < 6) (hk : k < j_len.getD j 0) (μ : j_M) : Ct yJ0_charAt_5068e cJ0_charAt_5068e 2 (some .char) 3 Λ [.ref (1000 + j), .int (nI k)] μ (pI fun r μ2 => r = ((j_byt.getD j []).getD k 0) ∧ μ2 = μ) := by
  refine Ct.go (lo := [some (.ref (1000 + j)), some (.int (nI k))]) (by decide) (Nat.le_of_ble_eq_true rfl) rfl rfl (fun X F => ?_)
  have F : Fx X cJ0_charAt_5068e RJ0 3 (some .char) Λ := F
  refine v_aload_n (pc := 0) (i := 0) F dJ0_charAt_5068e_0 rfl rfl ?_
  refine v_callTI (pc := 1) (As := []) (rest := []) (b := j) F mJ0_isLatin1_aae02 kJ0_492 im_J0_isLatin1_aae02 se_J0_isLatin1_aae02 dJ0_charAt_5068e_1 rfl hj (c_J0_isLatin1 _ j hj _) (by decide) rfl rfl (Nat.le_of_ble_eq_true rfl) (fun x1 μ1 hp1 => ?_)
  rw [hp1.1, hp1.2]
  refine v_if_eq (pc := 4) (tgt := 16) F dJ0_charAt_5068e_4 (by decide) (fun h4_2 => ?_) (fun h4_2 => ?_)
  · rw [j_eq0 (by omega)] at h4_2
    exact absurd h4_2 (by decide)
  · rw [j_eq0 (by omega)] at h4_2
    refine v_aload_n (pc := 7) (i := 0) F dJ0_charAt_5068e_7 rfl rfl ?_
    refine v_strV (pc := 8) F dJ0_charAt_5068e_8 hj ?_
    refine v_iload_n (pc := 11) (i := 1) F dJ0_charAt_5068e_11 rfl rfl ?_
    refine v_callSI (pc := 12) (As := [_, _]) (rest := []) F mJ1_charAt_3b067 kJ0_495 sm_J1_charAt_3b067 dJ0_charAt_5068e_12 (c_J1_charAt _ j k hj (by assumption) _) (by decide) rfl rfl (Nat.le_of_ble_eq_true rfl) (fun x3 μ3 hp3 => ?_)
    rw [hp3.1, hp3.2]
    refine v_ireturn (pc := 15) F dJ0_charAt_5068e_15 ((j_bytv hj hk).2) ?_
    exact ⟨rfl, rfl⟩
