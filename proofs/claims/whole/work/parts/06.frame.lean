/-! a world as one pool: cells by number, at addresses that are variables; a memory is what its ints and longs hold -/
abbrev j_G : Type := (Nat → ClassId) × (Nat → Nat → Nat) × (Nat → ClassId) × (Nat → Nat)
abbrev j_M : Type := (Nat → Nat → Int32) × (Nat → Nat → Int64)
abbrev j_L : Type := Nat × (Nat → Nat) × (Nat → Nat)
def j_ad (G : j_G) (i : Nat) : Nat := G.2.2.2 i
def j_nf (c : Nat) : Nat := [1, 5, 4, 7, 8, 3, 2, 4, 4, 12, 33].getD c 0
def j_fot : List (List (Option Nat)) := [[some 1], [some 1, none, none, none, none], [some 1, none, none, none], [some 1, none, none, none, none, none, none],
  [some 1, some 2, some 3, some 4, none, none, none, none], [some 1, none, none], [some 1, some 2], [some 1, none, none, none], [some 1, some 22, some 24, some 25],
  [some 1, some 22, some 43, none, some 64, some 66, some 69, some 72, some 98, some 101, some 103, some 120],
  [some 1, none, some 2, some 3, some 4, some 5, some 6, some 7, some 8, none, none, none, some 9, none, none, none, none, some 10, some 11, some 12, some 13, none, some 14, some 15, some 16, none, some 17, some 18, some 19, some 20, some 21, some 22, some 23]]
def j_fo (c j : Nat) : Option Nat := (j_fot.getD c []).getD j none
def j_fv (G : j_G) (μ : j_M) (i c j : Nat) : Value := match j_fo c j with
  | some o => .ref (j_ad G (i + o))
  | none => .int (μ.1 i j)
def j_fs (G : j_G) (μ : j_M) (i c : Nat) : List Value := (List.range (j_nf c)).map (j_fv G μ i c)
def j_ro (kd i j : Nat) : Nat := if kd = 14 then i + 2 + 2 * j else i + 1 + 2 * j
def j_ar (G : j_G) (μ : j_M) (kd i n : Nat) : vp_A := (n, if kd = 12 then .inr (.inl (μ.2 i)) else if kd = 14 ∨ kd = 15 then .inr (.inr (.inr (.inr (fun j => some (j_ad G (j_ro kd i j)))))) else .inl (μ.1 i))
def j_en (G : j_G) (Λ : j_L) (μ : j_M) (i : Nat) : va_E := if Λ.2.1 i < 11 then .inr (Λ.2.1 i, j_fs G μ i (Λ.2.1 i)) else .inl (G.2.2.1 (Λ.2.1 i), j_ar G μ (Λ.2.1 i) i (Λ.2.2 i))
def j_wl (G : j_G) (Λ : j_L) (μ : j_M) : va_W := (List.range Λ.1).map fun i => (j_ad G i, j_en G Λ μ i)
def j_tys (G : j_G) : List (ClassId × FieldType) := [(G.2.2.1 11, .int), (G.2.2.1 12, .long), (G.2.2.1 13, .boolean), (G.2.2.1 14, .object RX3), (G.2.2.1 15, .object RX5)]
def j_P (G : j_G) (Λ : j_L) (μ : j_M) (H : Heap) : Prop := va_P (G.1, G.2.1) vwCl (j_wl G Λ μ) H
def j_A (G : j_G) (Λ : j_L) : Nat → Prop := fun q => ∃ i, i < Λ.1 ∧ q = j_ad G i
def j_ok (G : j_G) (Λ : j_L) : Prop := ∀ i j, i < Λ.1 → j < Λ.1 → j_ad G i = j_ad G j → i = j
def j_pI (μ : j_M) (i j : Nat) (v : Int32) : j_M := (fun a b => if a = i ∧ b = j then v else μ.1 a b, μ.2)
def j_pL (μ : j_M) (i j : Nat) (v : Int64) : j_M := (μ.1, fun a b => if a = i ∧ b = j then v else μ.2 a b)
def j_cI (μ : j_M) (a b sp dp n : Nat) : j_M := (fun c k => if c = b then va_cpy (μ.1 a) (μ.1 b) sp dp n k else μ.1 c k, μ.2)
def j_cL (μ : j_M) (a b sp dp n : Nat) : j_M := (μ.1, fun c k => if c = b then va_cpy (μ.2 a) (μ.2 b) sp dp n k else μ.2 c k)
theorem j_at {G : j_G} {Λ : j_L} {μ : j_M} {i : Nat} (h : i < Λ.1) : (j_wl G Λ μ)[i]? = some (j_ad G i, j_en G Λ μ i) := by
  simp [j_wl, h]
theorem j_obj {G : j_G} {Λ : j_L} {μ : j_M} {i c : Nat} (h : i < Λ.1) (hk : Λ.2.1 i = c) (hc : c < 11) : (j_wl G Λ μ)[i]? = some (j_ad G i, .inr (c, j_fs G μ i c)) := by
  rw [j_at h]; subst hk; simp [j_en, hc]
theorem j_arr {G : j_G} {Λ : j_L} {μ : j_M} {i c n : Nat} (h : i < Λ.1) (hk : Λ.2.1 i = c) (hc : ¬ c < 11) (hn : Λ.2.2 i = n) : (j_wl G Λ μ)[i]? = some (j_ad G i, .inl (G.2.2.1 c, j_ar G μ c i n)) := by
  rw [j_at h]; subst hk; subst hn; simp [j_en, hc]
theorem j_D {G : j_G} {Λ : j_L} {μ : j_M} (ok : j_ok G Λ) : va_D (j_A G Λ) (j_wl G Λ μ) := by
  have key : ∀ (k : Nat) (q : Nat × va_E), (j_wl G Λ μ)[k]? = some q → k < Λ.1 ∧ q.1 = j_ad G k := by
    intro k q hk
    have hl : k < Λ.1 := by
      have := (List.getElem?_eq_some_iff.mp hk).1
      simpa [j_wl] using this
    rw [j_at hl] at hk
    cases hk
    exact ⟨hl, rfl⟩
  refine ⟨fun i j p q hi hj hpq => ?_, fun k q hk => ?_⟩
  · obtain ⟨a1, a2⟩ := key i p hi
    obtain ⟨b1, b2⟩ := key j q hj
    exact ok i j a1 b1 (by rw [← a2, ← b2]; exact hpq)
  · obtain ⟨a1, a2⟩ := key k q hk
    exact ⟨k, a1, a2⟩
theorem j_set {G : j_G} {Λ : j_L} {μ μ' : j_M} {i : Nat} {e : va_E} (h : i < Λ.1) (he : e = j_en G Λ μ' i) (ho : ∀ k, k ≠ i → j_en G Λ μ k = j_en G Λ μ' k) : (j_wl G Λ μ).set i (j_ad G i, e) = j_wl G Λ μ' := by
  subst he
  apply List.ext_getElem?
  intro k
  by_cases hk : k = i
  · subst hk
    rw [List.getElem?_set_self (by simp [j_wl, h]), j_at h]
  · rw [List.getElem?_set_ne (Ne.symm hk)]
    by_cases hl : k < Λ.1
    · rw [j_at hl, j_at hl, ho k hk]
    · rw [List.getElem?_eq_none (by simp [j_wl]; omega), List.getElem?_eq_none (by simp [j_wl]; omega)]
theorem j_pI_ne {μ : j_M} {i j k : Nat} {v : Int32} (h : k ≠ i) : (j_pI μ i j v).1 k = μ.1 k := by
  funext b; simp [j_pI, h]
theorem j_pL_ne {μ : j_M} {i j k : Nat} {v : Int64} (h : k ≠ i) : (j_pL μ i j v).2 k = μ.2 k := by
  funext b; simp [j_pL, h]
theorem j_en_congr {G : j_G} {Λ : j_L} {μ μ' : j_M} {k : Nat} (h1 : μ.1 k = μ'.1 k) (h2 : μ.2 k = μ'.2 k) : j_en G Λ μ k = j_en G Λ μ' k := by
  have hf : ∀ c, j_fs G μ k c = j_fs G μ' k c := fun c => by
    have : j_fv G μ k c = j_fv G μ' k c := by
      funext j
      unfold j_fv
      rw [h1]
    unfold j_fs
    rw [this]
  unfold j_en j_ar
  rw [hf, h1, h2]
theorem j_setI {G : j_G} {Λ : j_L} {μ : j_M} {i c j : Nat} {v : Int32} (h : i < Λ.1) (hk : Λ.2.1 i = c) (hc : c < 11) (hj : j < j_nf c) (hf : j_fo c j = none) : (j_wl G Λ μ).set i (j_ad G i, .inr (c, (j_fs G μ i c).set j (.int v))) = j_wl G Λ (j_pI μ i j v) := by
  refine j_set h ?_ (fun k hk => j_en_congr (by rw [j_pI_ne hk]) rfl)
  subst hk
  unfold j_en
  rw [if_pos hc]
  congr 2
  apply List.ext_getElem?
  intro b
  by_cases hb : b = j
  · subst hb
    rw [List.getElem?_set_self (by simp [j_fs, hj])]
    simp [j_fs, hj, j_fv, hf, j_pI]
  · rw [List.getElem?_set_ne (Ne.symm hb)]
    simp only [j_fs, List.getElem?_map]
    by_cases hl : b < j_nf (Λ.2.1 i)
    · rw [List.getElem?_range hl]
      simp [j_fv, j_pI, hb]
    · rw [List.getElem?_eq_none (by simp; omega)]
      rfl
theorem j_setA {G : j_G} {Λ : j_L} {μ : j_M} {i c j n : Nat} {v : Int32} (h : i < Λ.1) (hk : Λ.2.1 i = c) (hc : c = 11 ∨ c = 13) (hn : Λ.2.2 i = n) : (j_wl G Λ μ).set i (j_ad G i, .inl (G.2.2.1 c, n, .inl (upd (μ.1 i) j v))) = j_wl G Λ (j_pI μ i j v) := by
  refine j_set h ?_ (fun k hk => j_en_congr (by rw [j_pI_ne hk]) rfl)
  subst hk; subst hn
  have e : (j_pI μ i j v).1 i = upd (μ.1 i) j v := by
    funext b; simp [j_pI, upd]
  have h1 : ¬ Λ.2.1 i < 11 := by omega
  have h2 : ¬ Λ.2.1 i = 12 := by omega
  have h3 : ¬ (Λ.2.1 i = 14 ∨ Λ.2.1 i = 15) := by omega
  simp only [j_en, j_ar, if_neg h1, if_neg h2, if_neg h3, e]
theorem j_setJ {G : j_G} {Λ : j_L} {μ : j_M} {i j n : Nat} {v : Int64} (h : i < Λ.1) (hk : Λ.2.1 i = 12) (hn : Λ.2.2 i = n) : (j_wl G Λ μ).set i (j_ad G i, .inl (G.2.2.1 12, n, .inr (.inl (vp_updL (μ.2 i) j v)))) = j_wl G Λ (j_pL μ i j v) := by
  refine j_set h ?_ (fun k hk => j_en_congr rfl (by rw [j_pL_ne hk]))
  subst hn
  have e : (j_pL μ i j v).2 i = vp_updL (μ.2 i) j v := by
    funext b; simp [j_pL, vp_updL]
  simp only [j_en, j_ar, hk]
  simp [e]

/-! what stands beside the pool: the tables' classes, the String constants (by numbers from 1000 on), two statics of the JDK's -/
def j_len : List Nat := [5, 5, 6, 5, 5, 5]
def j_byt : List (List Int32) := [[112, 108, 97, 99, 101], [99, 108, 101, 97, 114], [108, 111, 111, 107, 101, 114], [108, 105, 107, 101, 115], [99, 111, 109, 101, 115], [115, 104, 105, 110, 101]]
def j_strs : List (String × Nat × String × Nat) := [(RX7, 116, "place", 0), (RX7, 118, "clear", 1), (RX7, 120, "looker", 2), (RX7, 122, "likes", 3), (RX7, 124, "comes", 4), (RX7, 125, "shine", 5), (RX10, 165, "place", 0), (RX10, 175, "clear", 1), (RX10, 177, "looker", 2), (RX10, 179, "likes", 3), (RX10, 181, "comes", 4), (RX10, 182, "shine", 5)]
def j_S (G : j_G) (A : Nat → Prop) (U : State) (H : Heap) : Prop := vk_S 6 j_len j_byt (fun j => j_ad G (1000 + j)) (fun j => j_ad G (2000 + j)) A U H ∧ (∀ q ∈ j_strs, vk_R q.1 q.2.1 q.2.2.1 (j_ad G (1000 + q.2.2.2)) U) ∧ va_Z "java/lang/String" "COMPACT_STRINGS" "Z" (.int 1) A U H ∧ (va_Z "jdk/internal/util/Preconditions" "SIOOBE_FORMATTER" "Ljava/util/function/BiFunction;" .null A U H ∨ va_Z "jdk/internal/util/Preconditions" "SIOOBE_FORMATTER" "Ljava/util/function/BiFunction;" (.ref (j_ad G 3000)) A U H)
def j_K (G : j_G) (Λ : j_L) (U : State) : Prop := va_K (G.1, G.2.1) vwCl (j_tys G) U ∧ (∀ w ∈ j_nw, va_Nw w U) ∧ j_S G (j_A G Λ) U U.heap
theorem j_K_move {G : j_G} {Λ : j_L} {s U : State} {H : Heap} {locs : List Loc} (hK : j_K G Λ s) (hS : va_S (j_A G Λ) s.heap H locs) (hU : U.heap = H) (hW : s.WarmedH U.vm) : j_K G Λ U := by
  obtain ⟨h1, h0, h2, h3, h4, h5⟩ := hK
  have hq : ∀ a : Nat, a < s.heap.size → ¬ j_A G Λ a → U.heap[a]? = s.heap[a]? := fun a h h' => by rw [hU]; exact hS.2.1 a h h'
  exact ⟨va_K.moved hW.alike h1, j_nw_warm hW h0, (h2.moved hW.alike).kept hq, fun q hm => (h3 q hm).warm hW, (h4.moved hW.alike).kept hq, h5.imp (fun z => (z.moved hW.alike).kept hq) (fun z => (z.moved hW.alike).kept hq)⟩
theorem j_K_call {G : j_G} {Λ : j_L} {U : State} {g : JFrame} {mk : MethodId} {a : Array Value} (hK : j_K G Λ U) : j_K G Λ (U.calling g mk a) := by
  obtain ⟨h1, h0, h2, h3, h4, h5⟩ := hK
  exact ⟨va_K.moved (u := U) (U := U.calling g mk a) (Vm.Alike.refl U.vm) h1, j_nw_same (s := U) (U := U.calling g mk a) rfl h0, vk_S.moved (u := U) (U := U.calling g mk a) (Vm.Alike.refl U.vm) h2, fun q hm => vk_R.same (u := U) (U := U.calling g mk a) rfl (h3 q hm), va_Z.moved (u := U) (U := U.calling g mk a) (Vm.Alike.refl U.vm) h4, h5.imp (fun z => va_Z.moved (u := U) (U := U.calling g mk a) (Vm.Alike.refl U.vm) z) (fun z => va_Z.moved (u := U) (U := U.calling g mk a) (Vm.Alike.refl U.vm) z)⟩
/-- values: a reference names its cell by number -/
def j_cz (G : j_G) : Value → Value
  | .ref c => .ref (j_ad G c)
  | v => v
theorem j_cz_cat {G : j_G} (v : Value) : (j_cz G v).category = v.category := by cases v <;> rfl
theorem j_cz_sum {G : j_G} (l : List Value) : ((l.map (j_cz G)).map fun v => v.category).sum = (l.map fun v => v.category).sum := by
  induction l with
  | nil => rfl
  | cons a t ih => simp only [List.map_cons, List.sum_cons, ih, j_cz_cat]
/-- locals -/
abbrev j_lo : Type := List (Option Value)
def j_LH (G : j_G) (ls : Array Slot) (nL : Nat) (lo : j_lo) : Prop := ls.size = nL ∧ lv_wf ls ∧ lo.length = nL ∧ ∀ (i : Nat) (v : Value), lo[i]? = some (some v) → ls[i]? = some (.val (j_cz G v))
def j_ls : List Value → j_lo
  | [] => []
  | v :: vs => match v.category with
    | 2 => some v :: none :: j_ls vs
    | _ => some v :: j_ls vs
theorem j_ls_args {G : j_G} : ∀ (vs : List Value) (n i : Nat) (v : Value), (j_ls vs)[i]? = some (some v) → (n + i, j_cz G v) ∈ lv_args n (vs.map (j_cz G))
  | [], n, i, v, h => by simp [j_ls] at h
  | a :: t, n, i, v, h => by
    simp only [List.map_cons, lv_args, j_cz_cat]
    by_cases hc : a.category = 2
    · simp only [j_ls, hc] at h
      rw [if_pos hc]
      match i, h with
      | 0, h => simp at h; subst h; exact List.mem_cons_self
      | 1, h => simp at h
      | i + 2, h =>
        have h1 := j_ls_args (G := G) t (n + 2) i v (by simpa using h)
        rw [show n + (i + 2) = n + 2 + i by omega]
        exact List.mem_cons_of_mem _ h1
    · have e : j_ls (a :: t) = some a :: j_ls t := by
        rcases lv_cat a with q | q
        · simp only [j_ls, q]
        · exact absurd q hc
      rw [e] at h
      rw [if_neg hc]
      match i, h with
      | 0, h => simp at h; subst h; exact List.mem_cons_self
      | i + 1, h =>
        have h1 := j_ls_args (G := G) t (n + 1) i v (by simpa using h)
        rw [show n + (i + 1) = n + 1 + i by omega]
        exact List.mem_cons_of_mem _ h1
theorem j_LH_entry {G : j_G} {vs : List Value} {n : Nat} {lo : j_lo} (hn : (lg_sl (vs.map (j_cz G))).length ≤ n) (hlo : j_ls vs ++ List.replicate (n - (j_ls vs).length) none = lo) (hll : lo.length = n) : j_LH G ((lg_sl (vs.map (j_cz G)) ++ List.replicate (n - (lg_sl (vs.map (j_cz G))).length) Slot.unset).toArray) n lo := by
  obtain ⟨h1, h2, h3⟩ := lv_entry (vs.map (j_cz G)) hn
  refine ⟨h1, h2, hll, fun i v h => ?_⟩
  subst hlo
  by_cases hi : i < (j_ls vs).length
  · rw [List.getElem?_append_left hi] at h
    have := j_ls_args (G := G) vs 0 i v h
    rw [Nat.zero_add] at this
    exact h3 _ this
  · rw [List.getElem?_append_right (by omega)] at h
    have hm := List.mem_of_getElem? h
    rw [List.mem_replicate] at hm
    cases hm.2
theorem j_lg_len {G : j_G} (vs : List Value) : (lg_sl (vs.map (j_cz G))).length = (lg_sl vs).length := by
  induction vs with
  | nil => rfl
  | cons a t ih =>
    simp only [lg_sl, List.map_cons, List.flatMap_cons, List.length_append, j_cz_cat] at ih ⊢
    rw [ih]
    congr 1
    split <;> rfl
/-- the state of a proof about one method's frame -/
abbrev j_X : Type := Program × Launch × Env × Room × State × MethodId × Array Value × List Frame × Method × Code × j_G × j_L × Nat
def j_rm (d : Nat) : Room := { frames := d, cells := 0, slots := 0, locals := 40 * d }
abbrev j_ps : Type := Option Value → j_M → Prop
def j_Q (G : j_G) (Λ : j_L) (post : j_ps) : Array Value → State → Outcome → State → Prop := fun _ st o t => ∃ (r : Option Value) (μ : j_M), o = .returned (r.map (j_cz G)) ∧ post r μ ∧ j_P G Λ μ t.heap ∧ va_F (j_A G Λ) st t
def j_Pc (G : j_G) (Λ : j_L) (av : List Value) (μ : j_M) : Array Value → State → Prop := va_Pc (av.map (j_cz G)) (fun U => j_P G Λ μ U.heap ∧ j_K G Λ U)
def V (X : j_X) (post : j_ps) (pc : Nat) (lo : j_lo) (st : List Value) (μ : j_M) : Prop := match X with
  | (p, l, e, R, s, m, args, below, meth, c, G, Λ, nL) => ∀ (H : Heap) (locs : List Loc) (ls : Array Slot), j_P G Λ μ H → va_S (j_A G Λ) s.heap H locs → j_LH G ls nL lo → W p l e R s m args below meth c H locs 0 0 (MQ below (j_Q G Λ post) args s 0 0 (j_A G Λ)) (F0 m pc ls (st.map (j_cz G)))
def Fx (X : j_X) (cc : ByteArray) (own : String) (d : Nat) (rt : Option FieldType) (Λ' : j_L) : Prop := match X with
  | (p, l, e, R, s, m, args, below, meth, c, G, Λ, nL) => p.tables.exec = Jvm.exec ∧ c.code = cc ∧ c.maxLocals = nL ∧ s.vm.findClass own = some m.cls ∧ (∀ w ∈ j_gw, w.before args s = true) ∧ j_K G Λ s ∧ meth.locks = false ∧ j_ok G Λ ∧ R = j_rm d ∧ meth.sig.returnType = rt ∧ Λ = Λ'
/-- a method's contract over a pool: from the memory μ, with these arguments, it returns r with the memory μ', and 'post r μ'' -/
def Ct (y : MethodName) (cc : ByteArray) (nL : Nat) (ret : Option FieldType) (d : Nat) (Λ : j_L) (av : List Value) (μ : j_M) (post : j_ps) : Prop :=
  ∀ (l : Launch) (G : j_G), j_ok G Λ → Met l y (Cond.code y cc nL ret :: j_gw) (j_rm d) (j_Pc G Λ av μ) (j_Q G Λ post) 0 0 (j_A G Λ)
theorem Ct.go {y : MethodName} {cc : ByteArray} {nL : Nat} {ret : Option FieldType} {d : Nat} {Λ : j_L} {av : List Value} {μ : j_M} {post : j_ps} {lo : j_lo} (hy : plainName y.cls = true) (hn : (lg_sl av).length ≤ nL) (hlo : j_ls av ++ List.replicate (nL - (j_ls av).length) none = lo) (hll : lo.length = nL)
    (body : ∀ X : j_X, Fx X cc y.cls d ret Λ → V X post 0 lo [] μ) : Ct y cc nL ret d Λ av μ post := by
  intro l G hok
  refine Met.ofW (cc := cc) (maxL := nL) (ret := ret) hy rfl ?_
  intro p e s m args below meth c s₁ B hml hv
  obtain ⟨rfl, hP, hK⟩ := hv
  have hts := atoms_spec (ws := Cond.code y cc nL ret :: j_gw) B.pre
  have hV := body (p, l, e, j_rm d, s, m, (av.map (j_cz G)).toArray, below, meth, c, G, Λ, nL) ⟨B.exec, B.bytes, hml, findClass_of_methodNamed B.named, fun w hw => hts w (List.mem_cons_of_mem _ hw), hK, B.notSynchronized, hok, rfl, B.returns, rfl⟩
  rw [lg_entry_eq]
  exact hV s.heap [] _ hP va_S.rf (j_LH_entry (by rw [j_lg_len]; exact hn) hlo hll)
theorem Ct.weaken {y : MethodName} {cc : ByteArray} {nL : Nat} {ret : Option FieldType} {d : Nat} {Λ : j_L} {av : List Value} {μ : j_M} {post post' : j_ps} (h : Ct y cc nL ret d Λ av μ post) (hp : ∀ r μ', post r μ' → post' r μ') : Ct y cc nL ret d Λ av μ post' := by
  intro l G hok p e ha hc hk s m args below hf happ hP hK
  obtain ⟨n, o, h1, h2, h3, ⟨⟨r, μ', q1, q2, q3⟩, q4⟩⟩ := h l G hok p e ha hc hk s m args below hf happ hP hK
  exact ⟨n, o, h1, h2, h3, ⟨r, μ', q1, hp r μ' q2, q3⟩, q4⟩
