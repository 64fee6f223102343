/-! the constructors -/
theorem cd_oi : Cond.code objectInit ⟨#[0xb1]⟩ 1 none ∈ j_gw := j_mem (j_c1 (i := 28) (by decide +kernel)) rfl
def n_rm (d k n : Nat) : Room := { frames := d, cells := k, slots := n, locals := 40 * d }
abbrev n_D (G : j_G) : va_G := (G.1, G.2.1)
abbrev n_in (D : va_G) (h0 sz : Nat) (e : va_E) : Array Value → State → Prop := va_Pc [.ref h0] (fun U => U.heap.size = sz ∧ va_P D vwCl [(h0, e)] U.heap ∧ va_K D vwCl [] U ∧ va_D (fun _ => True) [(h0, e)])
theorem n_X2_init (l : Launch) (D : va_G) (h0 sz : Nat) : Met l yX2_init (Cond.code yX2_init cX2_init 1 none :: j_gw) (n_rm 1 1 8) (n_in D h0 sz (.inr (2, [.null, .int 0, .int 0, .int 0]))) (va_Qv (fun _ : Unit => True) (fun _ t => ∃ q cA, va_P D vwCl [(h0, .inr (2, [.ref q, .int 0, .int 0, .int 0])), (q, .inl (cA, ((8 : Nat), .inl (fun _ => (0 : Int32)))))] t.heap ∧ va_K D vwCl [(cA, .int)] t ∧ va_D (va_A [(h0, .inr (2, [.null, .int 0, .int 0, .int 0]))] sz) [(h0, .inr (2, [.ref q, .int 0, .int 0, .int 0])), (q, .inl (cA, ((8 : Nat), .inl (fun _ => (0 : Int32)))))]) (va_A [(h0, .inr (2, [.null, .int 0, .int 0, .int 0]))] sz)) 1 8 (va_A [(h0, .inr (2, [.null, .int 0, .int 0, .int 0]))] sz) := by
  refine Met.ofW (cc := cX2_init) (maxL := 1) (ret := none) (by decide) rfl ?_
  intro p e s m args below meth c s₁ B hml hv
  obtain ⟨rfl, hsz, hP, hK, hD0⟩ := hv
  have hx := B.exec
  have hb := B.bytes
  have hr := B.returns
  have hts0 := atoms_spec (ws := Cond.code yX2_init cX2_init 1 none :: j_gw) B.pre
  have hts : ∀ w ∈ j_gw, w.before _ s = true := fun w hw => hts0 w (List.mem_cons_of_mem _ hw)
  have hown : s.vm.findClass RX2 = some m.cls := findClass_of_methodNamed B.named
  have hlocks := B.notSynchronized
  have hin : meth.name = "<init>" := (name_of_methodNamed B.named B.method).1
  subst hsz
  have hD := hD0.self (sz := s.heap.size)
  generalize hAe : va_A [(h0, .inr (2, [.null, .int 0, .int 0, .int 0]))] s.heap.size = A at hD ⊢
  have hA : ∀ q : Nat, s.heap.size ≤ q → A q := fun q h => by rw [← hAe]; exact Or.inr h
  have hS : va_S A s.heap s.heap [] := va_S.rf
  have hl := lv_entry ([.ref h0]) (n := 1) (Nat.le_of_ble_eq_true rfl)
  rw [lg_entry_eq]
  generalize (lg_sl ([.ref h0]) ++ List.replicate (1 - (lg_sl ([.ref h0])).length) Slot.unset).toArray = ls at hl ⊢
  have hl : lv_has ls 1 [(0, .ref h0)] := hl
  refine lv_aload_n hx hb dX2_init_0 rfl (lv_at hl 0 rfl) ?_
  refine W.objInit hx hb hown (hts _ mlX2_3) (hts _ im_oi) (hts _ cd_oi) rfl (by rw [hml]; exact hl.1) rfl dX2_init_1 (Nat.le_of_ble_eq_true rfl) (Nat.le_of_ble_eq_true rfl) ?_
  refine W.eq (g2 := F0 m 4 ls []) rfl ?_
  refine lv_aload_n hx hb dX2_init_4 rfl (lv_at hl 0 rfl) ?_
  refine lv_bipush (v := 8) hx hb dX2_init_5 (by decide) ?_
  refine va_newa (atype := .int) (a0 := ((8 : Nat), .inl (fun _ => (0 : Int32)))) (N' := 8) hx hb (hts _ ac_90) (ty := .int) rfl hK hP hD hS hA (fun cA => rfl) (by decide) (by decide) (by decide) (by decide) (by decide) dX2_init_7 (fun q cA H hK hP hD hS => ?_)
  have hP : va_P D vwCl [(h0, .inr (2, [.null, .int 0, .int 0, .int 0])), (q, .inl (cA, ((8 : Nat), .inl (fun _ => (0 : Int32)))))] H := hP
  have hD : va_D A [(h0, .inr (2, [.null, .int 0, .int 0, .int 0])), (q, .inl (cA, ((8 : Nat), .inl (fun _ => (0 : Int32)))))] := hD
  refine va_putF (D := D) (ci := 2) (v := .ref q) (ty := tyX2 0) (C := RX2) (T := TX2) (N := 4) hx hb hts uw2 tyX2 tyX2_ok nmX2 hown hK hP hD hS 0 rfl rfl 0 (by decide) (hts _ flX2_9) (fun _ h9 => h9) rfl hin rfl (by decide +kernel) rfl rfl (Nat.le_of_ble_eq_true rfl) dX2_init_9 (fun H locs hP hD hS => ?_)
  exact W.vret hx hb hr (fun t ht hW => ⟨⟨(), rfl, trivial, q, cA, by rw [ht]; exact hP, va_K.moved hW.alike hK, hD⟩, hS.F ht⟩) hS.2.2 dX2_init_12
