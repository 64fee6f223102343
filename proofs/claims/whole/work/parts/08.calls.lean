/-! ends and calls -/
def pI (f : Int32 → j_M → Prop) : j_ps := fun r μ => ∃ x : Int32, r = some (.int x) ∧ f x μ
def pJ (f : Int64 → j_M → Prop) : j_ps := fun r μ => ∃ x : Int64, r = some (.long x) ∧ f x μ
def pR (f : Nat → j_M → Prop) : j_ps := fun r μ => ∃ x : Nat, r = some (.ref x) ∧ f x μ
def pV (f : j_M → Prop) : j_ps := fun r μ => r = none ∧ f μ
section rets
variable {X : j_X} {pc : Nat} {lo : j_lo} {μ : j_M} {cc : ByteArray} {own : String} {d : Nat} {Λ : j_L}
theorem v_ireturn {ty : FieldType} (F : Fx X cc own d (some ty) Λ) {x : Int32} {f : Int32 → j_M → Prop} (hd : decode cc pc = .ok (.ireturn, 1)) (hn : narrow ty (.int x) = .int x) (hp : f x μ) : V X (pI f) pc lo [.int x] μ := by
  obtain ⟨p, l, e, R, s, m, args, below, meth, kc, G, Λ', nL⟩ := X
  obtain ⟨hx, hb, hml, hown, hts, hK, hlk, hok, hR, hr, hL⟩ := F
  subst hL
  intro H locs ls hP hS hl
  exact W.zret (v := x) hx hb hr hn (fun t ht hW => ⟨some (.int x), μ, rfl, ⟨x, rfl, hp⟩, by rw [ht]; exact hP, hS.F ht⟩) hS.2.2 hd hlk
theorem v_lreturn (F : Fx X cc own d (some .long) Λ) {x : Int64} {f : Int64 → j_M → Prop} (hd : decode cc pc = .ok (.lreturn, 1)) (hp : f x μ) : V X (pJ f) pc lo [.long x] μ := by
  obtain ⟨p, l, e, R, s, m, args, below, meth, kc, G, Λ', nL⟩ := X
  obtain ⟨hx, hb, hml, hown, hts, hK, hlk, hok, hR, hr, hL⟩ := F
  subst hL
  intro H locs ls hP hS hl
  exact W.lret (v := x) hx hb hr (fun t ht hW => ⟨some (.long x), μ, rfl, ⟨x, rfl, hp⟩, by rw [ht]; exact hP, hS.F ht⟩) hS.2.2 hd hlk
theorem v_areturn {n : String} (F : Fx X cc own d (some (.object n)) Λ) {x : Nat} {f : Nat → j_M → Prop} (hd : decode cc pc = .ok (.areturn, 1)) (hp : f x μ) : V X (pR f) pc lo [.ref x] μ := by
  obtain ⟨p, l, e, R, s, m, args, below, meth, kc, G, Λ', nL⟩ := X
  obtain ⟨hx, hb, hml, hown, hts, hK, hlk, hok, hR, hr, hL⟩ := F
  subst hL
  intro H locs ls hP hS hl
  exact W.aret (v := .ref (j_ad G x)) hx hb hr (Or.inl ⟨n, rfl⟩) (Or.inr ⟨_, rfl⟩) (fun t ht hW => ⟨some (.ref x), μ, rfl, ⟨x, rfl, hp⟩, by rw [ht]; exact hP, hS.F ht⟩) hS.2.2 hd hlk
theorem v_return (F : Fx X cc own d none Λ) {f : j_M → Prop} (hd : decode cc pc = .ok (.return_, 1)) (hp : f μ) : V X (pV f) pc lo [] μ := by
  obtain ⟨p, l, e, R, s, m, args, below, meth, kc, G, Λ', nL⟩ := X
  obtain ⟨hx, hb, hml, hown, hts, hK, hlk, hok, hR, hr, hL⟩ := F
  subst hL
  intro H locs ls hP hS hl
  exact W.vret hx hb hr (fun t ht hW => ⟨none, μ, rfl, ⟨rfl, hp⟩, by rw [ht]; exact hP, hS.F ht⟩) hS.2.2 hd hlk
end rets
theorem j_blind {G : j_G} {Λ : j_L} {av : List Value} {μ : j_M} : FrameBlind (j_Pc G Λ av μ) := fun a U g mk q => ⟨q.1, q.2.1, j_K_call q.2.2⟩
theorem j_pre {G : j_G} {Λ : j_L} {av : List Value} {μ : j_M} {s U : State} {H : Heap} {locs : List Loc} (hP : j_P G Λ μ H) (hS : va_S (j_A G Λ) s.heap H locs) (hK : j_K G Λ s) (hU : U.heap = H) (hW : s.WarmedH U.vm) : j_Pc G Λ av μ (av.map (j_cz G)).toArray U := ⟨rfl, by rw [hU]; exact hP, j_K_move hK hS hU hW⟩
/-- what a call of a method is linked to: (own, idx) names y -/
def j_mk (own : String) (idx : Nat) (y : MethodName) : Prop := Cond.methodLink own idx y ∈ j_gw ∨ ∃ host, Cond.methodLinkNest own idx y host ∈ j_nw
def j_my (y : MethodName) (cy : ByteArray) (ny : Nat) (ry : Option FieldType) (n : Nat) : Prop := Cond.code y cy ny ry ∈ j_gw ∧ Cond.initialized y.cls ∈ j_gw ∧ (y.cls ≠ "java/lang/invoke/MethodHandle" ∧ y.cls ≠ "java/lang/invoke/VarHandle") ∧ (parseMethodDescriptor y.desc).map (fun d => d.parameters.length) = some n ∧ ny ≤ 21
theorem j_plen {y : MethodName} {n : Nat} (h : (parseMethodDescriptor y.desc).map (fun d => d.parameters.length) = some n) : ∀ sig, parseMethodDescriptor y.desc = some sig → n = sig.parameters.length := by
  intro sig hs
  rw [hs] at h
  exact (Option.some.inj h).symm
section calls
variable {X : j_X} {post : j_ps} {pc : Nat} {lo : j_lo} {μ : j_M} {cc : ByteArray} {own : String} {d : Nat} {rt : Option FieldType} {Λ : j_L}
/-- behind a call -/
theorem j_goes {p : Program} {l : Launch} {e : Env} {R : Room} {s : State} {m : MethodId} {args : Array Value} {below : List Frame} {meth : Method} {kc : Code} {G : j_G} {Λ' : j_L} {nL : Nat} {H : Heap} {locs : List Loc} {ls : Array Slot} {rest st0 : List Value} {a : Array Value} {post' : j_ps}
    (hr : va_Run p l e R s m args below meth kc H locs 0 0 0 0 (F0 m pc ls st0) (rest.map (j_cz G)) (j_Q G Λ' post' a) (j_A G Λ')) (hS : va_S (j_A G Λ') s.heap H locs) (hl : j_LH G ls nL lo)
    (k : ∀ r μ', post' r μ' → V (p, l, e, R, s, m, args, below, meth, kc, G, Λ', nL) post (pc + 3) lo (r.toList ++ rest) μ') : W p l e R s m args below meth kc H locs 0 0 (MQ below (j_Q G Λ' post) args s 0 0 (j_A G Λ')) (F0 m pc ls st0) := by
  intro T hT X
  obtain ⟨v, st₀, t, T', L, h0, X', hL, e1, e2, ⟨r, μ', hv, hp, hP', hz, hk⟩, st⟩ := hr T hT X
  cases hv
  rw [h0] at hz hk
  have hS' : va_S (j_A G Λ') s.heap T'.heap (locs ++ L) := ⟨Nat.le_trans hS.1 (by rw [e1]; exact hz), fun q h1 h2 => by rw [e1, hk q (Nat.lt_of_lt_of_le h1 hS.1) h2]; exact hS.2.1 q h1 h2, fun q hq => by
    rcases List.mem_append.mp hq with h | h
    · exact hS.2.2 q h
    · exact hL q h⟩
  have hk2 := k r μ' hp T'.heap (locs ++ L) ls (by rw [e1]; exact hP') hS' hl
  have e3 : (r.toList ++ rest).map (j_cz G) = (r.map (j_cz G)).toList ++ rest.map (j_cz G) := by
    cases r <;> rfl
  rw [e3] at hk2
  obtain ⟨t2, a1, b1⟩ := hk2 T' rfl X'
  exact ⟨t2, st t2 a1, b1⟩
theorem j_room {d d' ny : Nat} (h : d' + 1 ≤ d) (hn : ny ≤ 21) : (j_rm d').frames + 1 ≤ (j_rm d).frames ∧ 8 + (ny + 11) + (j_rm d').locals ≤ (j_rm d).locals := by
  refine ⟨h, ?_⟩
  show 8 + (ny + 11) + 40 * d' ≤ 40 * d
  omega
theorem v_callS (F : Fx X cc own d rt Λ) {y : MethodName} {cy : ByteArray} {ny n idx d' : Nat} {ry : Option FieldType} {As rest st : List Value} {post' : j_ps} (hm : j_my y cy ny ry n) (hi : j_mk own idx y) (hs : Cond.static y ∈ j_gw) (hd : decode cc pc = .ok (.invokestatic idx, 3))
    (hC : Ct y cy ny ry d' Λ As μ post') (hr : d' + 1 ≤ d) (hn : As.length = n) (hst : st = As.reverse ++ rest) (hw : (rest.map fun v => v.category).sum ≤ 8) (k : ∀ r μ', post' r μ' → V X post (pc + 3) lo (r.toList ++ rest) μ') : V X post pc lo st μ := by
  obtain ⟨p, l, e, R, s, m, args, below, meth, kc, G, Λ', nL⟩ := X
  obtain ⟨hx, hb, hml, hown, hts, hK, hlk, hok, rfl, hret, hL⟩ := F
  subst hL; subst hst
  intro H locs ls hP hS hl
  obtain ⟨m1, m2, m3, m4, m5⟩ := hm
  have hbl : FrameBlind (j_Pc G Λ' As μ) := j_blind
  have hps : PreS s H (j_Pc G Λ' As μ) (As.map (j_cz G)) := ⟨hbl, fun U hU hW => j_pre hP hS hK hU hW⟩
  have hG : GoodIn j_gw (Cond.code y cy ny ry :: j_gw) := j_goodS m1
  have hstk : (As.reverse ++ rest).map (j_cz G) = (As.map (j_cz G)).reverse ++ rest.map (j_cz G) := by simp
  rcases hi with g | ⟨host, g⟩
  · exact j_goes (va_runS ⟨hx, hb, hml, hown, hts⟩ (hC l G hok) ⟨callB_of (ws' := j_gw) n hts hG rfl rfl rfl (hts _ m2) (hts _ g) ⟨m3.1, m3.2, m4⟩ (j_room hr m5), hts _ hs⟩ hps rfl (by rw [List.length_map]; exact hn) hl.1 hstk (lv_room (by rw [j_cz_sum]; exact hw)) hd ⟨Nat.le_refl _, Nat.le_refl _⟩) hS hl k
  · exact j_goes (va_runSN ⟨hx, hb, hml, hown, hts⟩ (hC l G hok) ⟨va_cnB (ws' := j_gw) n hts hG rfl rfl rfl (hK.2.1 _ g) (hts _ m2) ⟨m3.1, m3.2, m4⟩ (j_room hr m5), hts _ hs, trivial⟩ hps rfl (by rw [List.length_map]; exact hn) hl.1 hstk (lv_room (by rw [j_cz_sum]; exact hw)) hd ⟨Nat.le_refl _, Nat.le_refl _⟩) hS hl k
theorem v_callV (F : Fx X cc own d rt Λ) {y : MethodName} {cy : ByteArray} {ny n idx d' b c : Nat} {ry : Option FieldType} {q : vw_C} {As rest st : List Value} {post' : j_ps} (hm : j_my y cy ny ry n) (hi : j_mk own idx y) (hs : Cond.instanceMethod y ∈ j_gw) (he : Cond.selects y.cls y y ∈ j_gw) (hd : decode cc pc = .ok (.invokevirtual idx, 3))
    (hq : vwCl[c]? = some q) (hq1 : q.1 = y.cls) (hc : c < 11) (hC : Ct y cy ny ry d' Λ (.ref b :: As) μ post') (hr : d' + 1 ≤ d) (hn : As.length = n) (hst : st = As.reverse ++ .ref b :: rest) (hw : (rest.map fun v => v.category).sum ≤ 8) (hob : j_ob Λ b c) (k : ∀ r μ', post' r μ' → V X post (pc + 3) lo (r.toList ++ rest) μ') : V X post pc lo st μ := by
  obtain ⟨p, l, e, R, s, m, args, below, meth, kc, G, Λ', nL⟩ := X
  obtain ⟨hx, hb, hml, hown, hts, hK, hlk, hok, rfl, hret, hL⟩ := F
  subst hL; subst hst
  intro H locs ls hP hS hl
  obtain ⟨m1, m2, m3, m4, m5⟩ := hm
  have hbl : FrameBlind (j_Pc G Λ' (.ref b :: As) μ) := j_blind
  have hrecv := va_recv hK.1 hP hq (j_obj (G := G) (μ := μ) hob.1 hob.2 hc)
  rw [hq1] at hrecv
  have hps : PreV s H y.cls (j_ad G b) (j_Pc G Λ' (.ref b :: As) μ) (As.map (j_cz G)) := ⟨hbl, hrecv, fun U hU hW => j_pre hP hS hK hU hW⟩
  have hG : GoodIn j_gw (Cond.code y cy ny ry :: j_gw) := j_goodS m1
  have hstk : (As.reverse ++ .ref b :: rest).map (j_cz G) = (As.map (j_cz G)).reverse ++ .ref (j_ad G b) :: rest.map (j_cz G) := by simp [j_cz]
  rcases hi with g | ⟨host, g⟩
  · exact j_goes (va_runV (C := y.cls) ⟨hx, hb, hml, hown, hts⟩ (hC l G hok) ⟨callB_of (ws' := j_gw) n hts hG rfl rfl rfl (hts _ m2) (hts _ g) ⟨m3.1, m3.2, m4⟩ (j_room hr m5), hts _ hs, hts _ he⟩ hps rfl (by rw [List.length_map]; exact hn) hl.1 hstk (lv_room (by rw [j_cz_sum]; exact hw)) hd ⟨Nat.le_refl _, Nat.le_refl _⟩) hS hl k
  · exact j_goes (va_runVN (C := y.cls) ⟨hx, hb, hml, hown, hts⟩ (hC l G hok) ⟨va_cnB (ws' := j_gw) n hts hG rfl rfl rfl (hK.2.1 _ g) (hts _ m2) ⟨m3.1, m3.2, m4⟩ (j_room hr m5), hts _ hs, hts _ he⟩ hps rfl (by rw [List.length_map]; exact hn) hl.1 hstk (lv_room (by rw [j_cz_sum]; exact hw)) hd ⟨Nat.le_refl _, Nat.le_refl _⟩) hS hl k
end calls
