/-! calls by the kind of their answers -/
section callk
variable {X : j_X} {post : j_ps} {pc : Nat} {lo : j_lo} {μ : j_M} {cc : ByteArray} {own : String} {d : Nat} {rt : Option FieldType} {Λ : j_L}
theorem v_callSI (F : Fx X cc own d rt Λ) {y : MethodName} {cy : ByteArray} {ny n idx d' : Nat} {ry : Option FieldType} {As rest st : List Value} {f : Int32 → j_M → Prop} (hm : j_my y cy ny ry n) (hi : j_mk own idx y) (hs : Cond.static y ∈ j_gw) (hd : decode cc pc = .ok (.invokestatic idx, 3))
    (hC : Ct y cy ny ry d' Λ As μ (pI f)) (hr : d' + 1 ≤ d) (hn : As.length = n) (hst : st = As.reverse ++ rest) (hw : (rest.map fun v => v.category).sum ≤ 8) (k : ∀ x μ', f x μ' → V X post (pc + 3) lo (.int x :: rest) μ') : V X post pc lo st μ :=
  v_callS F hm hi hs hd hC hr hn hst hw (fun r μ' hp => by obtain ⟨x, rfl, hx⟩ := hp; exact k x μ' hx)
theorem v_callVI (F : Fx X cc own d rt Λ) {y : MethodName} {cy : ByteArray} {ny n idx d' b c : Nat} {ry : Option FieldType} {q : vw_C} {As rest st : List Value} {f : Int32 → j_M → Prop} (hm : j_my y cy ny ry n) (hi : j_mk own idx y) (hs : Cond.instanceMethod y ∈ j_gw) (he : Cond.selects y.cls y y ∈ j_gw) (hd : decode cc pc = .ok (.invokevirtual idx, 3))
    (hq : vwCl[c]? = some q) (hq1 : q.1 = y.cls) (hc : c < 11) (hC : Ct y cy ny ry d' Λ (.ref b :: As) μ (pI f)) (hr : d' + 1 ≤ d) (hn : As.length = n) (hst : st = As.reverse ++ .ref b :: rest) (hw : (rest.map fun v => v.category).sum ≤ 8) (hob : j_ob Λ b c) (k : ∀ x μ', f x μ' → V X post (pc + 3) lo (.int x :: rest) μ') : V X post pc lo st μ :=
  v_callV F hm hi hs he hd hq hq1 hc hC hr hn hst hw hob (fun r μ' hp => by obtain ⟨x, rfl, hx⟩ := hp; exact k x μ' hx)
theorem v_callSJ (F : Fx X cc own d rt Λ) {y : MethodName} {cy : ByteArray} {ny n idx d' : Nat} {ry : Option FieldType} {As rest st : List Value} {f : Int64 → j_M → Prop} (hm : j_my y cy ny ry n) (hi : j_mk own idx y) (hs : Cond.static y ∈ j_gw) (hd : decode cc pc = .ok (.invokestatic idx, 3))
    (hC : Ct y cy ny ry d' Λ As μ (pJ f)) (hr : d' + 1 ≤ d) (hn : As.length = n) (hst : st = As.reverse ++ rest) (hw : (rest.map fun v => v.category).sum ≤ 8) (k : ∀ x μ', f x μ' → V X post (pc + 3) lo (.long x :: rest) μ') : V X post pc lo st μ :=
  v_callS F hm hi hs hd hC hr hn hst hw (fun r μ' hp => by obtain ⟨x, rfl, hx⟩ := hp; exact k x μ' hx)
theorem v_callVJ (F : Fx X cc own d rt Λ) {y : MethodName} {cy : ByteArray} {ny n idx d' b c : Nat} {ry : Option FieldType} {q : vw_C} {As rest st : List Value} {f : Int64 → j_M → Prop} (hm : j_my y cy ny ry n) (hi : j_mk own idx y) (hs : Cond.instanceMethod y ∈ j_gw) (he : Cond.selects y.cls y y ∈ j_gw) (hd : decode cc pc = .ok (.invokevirtual idx, 3))
    (hq : vwCl[c]? = some q) (hq1 : q.1 = y.cls) (hc : c < 11) (hC : Ct y cy ny ry d' Λ (.ref b :: As) μ (pJ f)) (hr : d' + 1 ≤ d) (hn : As.length = n) (hst : st = As.reverse ++ .ref b :: rest) (hw : (rest.map fun v => v.category).sum ≤ 8) (hob : j_ob Λ b c) (k : ∀ x μ', f x μ' → V X post (pc + 3) lo (.long x :: rest) μ') : V X post pc lo st μ :=
  v_callV F hm hi hs he hd hq hq1 hc hC hr hn hst hw hob (fun r μ' hp => by obtain ⟨x, rfl, hx⟩ := hp; exact k x μ' hx)
theorem v_callSR (F : Fx X cc own d rt Λ) {y : MethodName} {cy : ByteArray} {ny n idx d' : Nat} {ry : Option FieldType} {As rest st : List Value} {f : Nat → j_M → Prop} (hm : j_my y cy ny ry n) (hi : j_mk own idx y) (hs : Cond.static y ∈ j_gw) (hd : decode cc pc = .ok (.invokestatic idx, 3))
    (hC : Ct y cy ny ry d' Λ As μ (pR f)) (hr : d' + 1 ≤ d) (hn : As.length = n) (hst : st = As.reverse ++ rest) (hw : (rest.map fun v => v.category).sum ≤ 8) (k : ∀ x μ', f x μ' → V X post (pc + 3) lo (.ref x :: rest) μ') : V X post pc lo st μ :=
  v_callS F hm hi hs hd hC hr hn hst hw (fun r μ' hp => by obtain ⟨x, rfl, hx⟩ := hp; exact k x μ' hx)
theorem v_callVR (F : Fx X cc own d rt Λ) {y : MethodName} {cy : ByteArray} {ny n idx d' b c : Nat} {ry : Option FieldType} {q : vw_C} {As rest st : List Value} {f : Nat → j_M → Prop} (hm : j_my y cy ny ry n) (hi : j_mk own idx y) (hs : Cond.instanceMethod y ∈ j_gw) (he : Cond.selects y.cls y y ∈ j_gw) (hd : decode cc pc = .ok (.invokevirtual idx, 3))
    (hq : vwCl[c]? = some q) (hq1 : q.1 = y.cls) (hc : c < 11) (hC : Ct y cy ny ry d' Λ (.ref b :: As) μ (pR f)) (hr : d' + 1 ≤ d) (hn : As.length = n) (hst : st = As.reverse ++ .ref b :: rest) (hw : (rest.map fun v => v.category).sum ≤ 8) (hob : j_ob Λ b c) (k : ∀ x μ', f x μ' → V X post (pc + 3) lo (.ref x :: rest) μ') : V X post pc lo st μ :=
  v_callV F hm hi hs he hd hq hq1 hc hC hr hn hst hw hob (fun r μ' hp => by obtain ⟨x, rfl, hx⟩ := hp; exact k x μ' hx)
theorem v_callSV (F : Fx X cc own d rt Λ) {y : MethodName} {cy : ByteArray} {ny n idx d' : Nat} {ry : Option FieldType} {As rest st : List Value} {f : j_M → Prop} (hm : j_my y cy ny ry n) (hi : j_mk own idx y) (hs : Cond.static y ∈ j_gw) (hd : decode cc pc = .ok (.invokestatic idx, 3))
    (hC : Ct y cy ny ry d' Λ As μ (pV f)) (hr : d' + 1 ≤ d) (hn : As.length = n) (hst : st = As.reverse ++ rest) (hw : (rest.map fun v => v.category).sum ≤ 8) (k : ∀ μ', f μ' → V X post (pc + 3) lo rest μ') : V X post pc lo st μ :=
  v_callS F hm hi hs hd hC hr hn hst hw (fun r μ' hp => by obtain ⟨rfl, hx⟩ := hp; exact k μ' hx)
theorem v_callVV (F : Fx X cc own d rt Λ) {y : MethodName} {cy : ByteArray} {ny n idx d' b c : Nat} {ry : Option FieldType} {q : vw_C} {As rest st : List Value} {f : j_M → Prop} (hm : j_my y cy ny ry n) (hi : j_mk own idx y) (hs : Cond.instanceMethod y ∈ j_gw) (he : Cond.selects y.cls y y ∈ j_gw) (hd : decode cc pc = .ok (.invokevirtual idx, 3))
    (hq : vwCl[c]? = some q) (hq1 : q.1 = y.cls) (hc : c < 11) (hC : Ct y cy ny ry d' Λ (.ref b :: As) μ (pV f)) (hr : d' + 1 ≤ d) (hn : As.length = n) (hst : st = As.reverse ++ .ref b :: rest) (hw : (rest.map fun v => v.category).sum ≤ 8) (hob : j_ob Λ b c) (k : ∀ μ', f μ' → V X post (pc + 3) lo rest μ') : V X post pc lo st μ :=
  v_callV F hm hi hs he hd hq hq1 hc hC hr hn hst hw hob (fun r μ' hp => by obtain ⟨rfl, hx⟩ := hp; exact k μ' hx)
theorem v_lookup (F : Fx X cc own d rt Λ) {dflt : Int} {ps : Array (Int × Int)} {len : Nat} {x : Int32} {off : Int} {tgt : Nat} {st : List Value} (hd : decode cc pc = .ok (.lookupswitch dflt ps, len)) (hp : (ps.toList.zip (ps.toList.drop 1)).all (fun (a, next) => a.1 < next.1) = true) (ho : Op.lookupswitch.offset ps.toList dflt x.toInt = off) (ht : (pc : Int) + off = (tgt : Int)) (k : V X post tgt lo st μ) : V X post pc lo (.int x :: st) μ := by
  obtain ⟨p, l, e, R, s, m, args, below, meth, kc, G, Λ', nL⟩ := X
  obtain ⟨hx, hb, hml, hown, hts, hK, hlk, hok, hR, hr, hL⟩ := F
  subst hL
  intro H locs ls hP hS hl
  exact lv_lookup hx hb hd hp ho ht (k H locs ls hP hS hl)
theorem v_copyJ (F : Fx X cc own (d + 1) rt Λ) {a a0 n0 n1 idx k0 k1 kn : Nat} {sp dp n : Int32} {st : List Value} (hd : decode cc pc = .ok (.invokestatic idx, 3)) (hi : Cond.methodLink own idx arraycopyName ∈ j_gw) (ha0 : j_is Λ a0 12 n0) (ha : j_is Λ a 12 n1) (hsp : sp = nI k0) (hdp : dp = nI k1) (hn : n = nI kn) (h1 : k0 + kn ≤ n0) (h2 : k1 + kn ≤ n1) (h3 : n0 < 2 ^ 31) (h4 : n1 < 2 ^ 31) (hw : (st.map fun v => v.category).sum ≤ 8) (k : V X post (pc + 3) lo st (j_cL μ a0 a k0 k1 kn)) : V X post pc lo (.int n :: .int dp :: .ref a :: .int sp :: .ref a0 :: st) μ := by
  obtain ⟨p, l, e, R, s, m, args, below, meth, kc, G, Λ', nL⟩ := X
  obtain ⟨hx, hb, hml, hown, hts, hK, hlk, hok, rfl, hr, hL⟩ := F
  subst hL; subst hsp; subst hdp; subst hn
  intro H locs ls hP hS hl
  refine va_copyl hx hb (by rw [hml]; exact hl.1.symm) hown (hts _ hi) (hts _ nm_ac) (hts _ sm_ac) (hts _ ni_J10) hK.1 hP (j_D hok) hS a0 a 1 1 (j_arr ha0.1 ha0.2.1 (by decide) ha0.2.2) (j_arr ha.1 ha.2.1 (by decide) ha.2.2) rfl rfl rfl (nI_pos (by omega)) (nI_pos (by omega)) (nI_pos (by omega)) (by rw [nI_clamp (by omega), nI_clamp (by omega)]; exact h1) (by rw [nI_clamp (by omega), nI_clamp (by omega)]; exact h2) (fun _ _ => rfl) (Nat.le_add_left 1 d) ?_ hd (fun H1 locs1 q1 _ q3 => ?_)
  · rw [j_cz_sum]
    show _ + (nativeFrameWords "java/lang/System" "arraycopy" 5 + 11) ≤ 40 * (d + 1)
    have : nativeFrameWords "java/lang/System" "arraycopy" 5 = 7 := by decide +kernel
    omega
  · rw [nI_clamp (by omega), nI_clamp (by omega), nI_clamp (by omega), j_set (G := G) (Λ := Λ') (μ := μ) (μ' := j_cL μ a0 a k0 k1 kn) ha.1 (by unfold j_en; rw [ha.2.1]; simp [j_ar, ha.2.2, j_cL]) (fun k hk => j_en_congr rfl (by simp [j_cL, hk]))] at q1
    exact k H1 locs1 ls q1 q3 hl
theorem v_copyI (F : Fx X cc own (d + 1) rt Λ) {a a0 n0 n1 idx k0 k1 kn : Nat} {sp dp n : Int32} {st : List Value} (hd : decode cc pc = .ok (.invokestatic idx, 3)) (hi : Cond.methodLink own idx arraycopyName ∈ j_gw) (ha0 : j_is Λ a0 11 n0) (ha : j_is Λ a 11 n1) (hsp : sp = nI k0) (hdp : dp = nI k1) (hn : n = nI kn) (h1 : k0 + kn ≤ n0) (h2 : k1 + kn ≤ n1) (h3 : n0 < 2 ^ 31) (h4 : n1 < 2 ^ 31) (hw : (st.map fun v => v.category).sum ≤ 8) (k : V X post (pc + 3) lo st (j_cI μ a0 a k0 k1 kn)) : V X post pc lo (.int n :: .int dp :: .ref a :: .int sp :: .ref a0 :: st) μ := by
  obtain ⟨p, l, e, R, s, m, args, below, meth, kc, G, Λ', nL⟩ := X
  obtain ⟨hx, hb, hml, hown, hts, hK, hlk, hok, rfl, hr, hL⟩ := F
  subst hL; subst hsp; subst hdp; subst hn
  intro H locs ls hP hS hl
  refine va_copyi hx hb (by rw [hml]; exact hl.1.symm) hown (hts _ hi) (hts _ nm_ac) (hts _ sm_ac) (hts _ ni_J10) hK.1 hP (j_D hok) hS a0 a 0 0 (j_arr ha0.1 ha0.2.1 (by decide) ha0.2.2) (j_arr ha.1 ha.2.1 (by decide) ha.2.2) rfl rfl rfl (nI_pos (by omega)) (nI_pos (by omega)) (nI_pos (by omega)) (by rw [nI_clamp (by omega), nI_clamp (by omega)]; exact h1) (by rw [nI_clamp (by omega), nI_clamp (by omega)]; exact h2) (fun _ _ => rfl) (Nat.le_add_left 1 d) ?_ hd (fun H1 locs1 q1 _ q3 => ?_)
  · rw [j_cz_sum]
    show _ + (nativeFrameWords "java/lang/System" "arraycopy" 5 + 11) ≤ 40 * (d + 1)
    have : nativeFrameWords "java/lang/System" "arraycopy" 5 = 7 := by decide +kernel
    omega
  · rw [nI_clamp (by omega), nI_clamp (by omega), nI_clamp (by omega), j_set (G := G) (Λ := Λ') (μ := μ) (μ' := j_cI μ a0 a k0 k1 kn) ha.1 (by unfold j_en; rw [ha.2.1]; simp [j_ar, ha.2.2, j_cI]) (fun k hk => j_en_congr (by simp [j_cI, hk]) rfl)] at q1
    exact k H1 locs1 ls q1 q3 hl
end callk
