/-! the tables' words that carry over a call, and each by its place -/
def j_gw : List Cond := lw_tbl.filter goodWord
theorem j_mem {w : Cond} (h : w ∈ lw_tbl) (hg : goodWord w = true) : w ∈ j_gw := List.mem_filter.mpr ⟨h, hg⟩
theorem j_t {w : Cond} (h : w ∈ tables_1) : w ∈ lw_tbl := List.mem_append_right _ h
theorem j_c1 {w : Cond} {i : Nat} (h : tables_1_1[i]? = some w) : w ∈ lw_tbl := j_t (List.mem_append_left _ (List.mem_of_getElem? h))
theorem j_c2 {w : Cond} {i : Nat} (h : tables_1_2[i]? = some w) : w ∈ lw_tbl := j_t (List.mem_append_right _ (List.mem_append_left _ (List.mem_of_getElem? h)))
theorem j_c3 {w : Cond} {i : Nat} (h : tables_1_3[i]? = some w) : w ∈ lw_tbl := j_t (List.mem_append_right _ (List.mem_append_right _ (List.mem_append_left _ (List.mem_of_getElem? h))))
theorem j_c4 {w : Cond} {i : Nat} (h : tables_1_4[i]? = some w) : w ∈ lw_tbl := j_t (List.mem_append_right _ (List.mem_append_right _ (List.mem_append_right _ (List.mem_append_left _ (List.mem_of_getElem? h)))))
theorem j_c5 {w : Cond} {i : Nat} (h : tables_1_5[i]? = some w) : w ∈ lw_tbl := j_t (List.mem_append_right _ (List.mem_append_right _ (List.mem_append_right _ (List.mem_append_right _ (List.mem_append_left _ (List.mem_of_getElem? h))))))
theorem j_c6 {w : Cond} {i : Nat} (h : tables_1_6[i]? = some w) : w ∈ lw_tbl := j_t (List.mem_append_right _ (List.mem_append_right _ (List.mem_append_right _ (List.mem_append_right _ (List.mem_append_right _ (List.mem_append_left _ (List.mem_of_getElem? h)))))))
theorem j_c7 {w : Cond} {i : Nat} (h : tables_1_7[i]? = some w) : w ∈ lw_tbl := j_t (List.mem_append_right _ (List.mem_append_right _ (List.mem_append_right _ (List.mem_append_right _ (List.mem_append_right _ (List.mem_append_right _ (List.mem_of_getElem? h)))))))

def j_isN : Cond → Bool
  | .fieldLinkNest .. => true
  | .methodLinkNest .. => true
  | _ => false
def j_nw : List Cond := lw_tbl.filter j_isN
theorem j_memN {w : Cond} (h : w ∈ lw_tbl) (hg : j_isN w = true) : w ∈ j_nw := List.mem_filter.mpr ⟨h, hg⟩
theorem j_nw_warm {s U : State} (hW : s.WarmedH U.vm) (h : ∀ w ∈ j_nw, va_Nw w s) : ∀ w ∈ j_nw, va_Nw w U := by
  intro w hw
  have h1 := h w hw
  have h2 := (List.mem_filter.mp hw).2
  cases w <;> first | exact va_Nw.warmF hW h1 | exact va_Nw.warmM hW h1 | (simp [j_isN] at h2; done)
theorem j_nw_same {s U : State} (hv : s.vm = U.vm) (h : ∀ w ∈ j_nw, va_Nw w s) : ∀ w ∈ j_nw, va_Nw w U := by
  intro w hw
  have h1 := h w hw
  have h2 := (List.mem_filter.mp hw).2
  cases w <;> first | exact va_Nw.same rfl hv h1 | (simp [j_isN] at h2; done)
theorem j_good {a b : Cond} (hb : b ∈ j_gw) : GoodIn (a :: j_gw) (b :: j_gw) := by
  have hf : ∀ w ∈ j_gw, (w.onTables && w.keeps) = true ∨ ∃ ty, w = .arrayClass ty := fun w hw => good_of_word (List.mem_filter.mp hw).2
  intro w hw
  rcases List.mem_cons.mp hw with rfl | h
  · exact ⟨List.mem_cons_of_mem _ hb, hf _ hb⟩
  · exact ⟨List.mem_cons_of_mem _ h, hf _ h⟩
theorem j_goodS {b : Cond} (hb : b ∈ j_gw) : GoodIn j_gw (b :: j_gw) := by
  have hf : ∀ w ∈ j_gw, (w.onTables && w.keeps) = true ∨ ∃ ty, w = .arrayClass ty := fun w hw => good_of_word (List.mem_filter.mp hw).2
  intro w hw
  rcases List.mem_cons.mp hw with rfl | h
  · exact ⟨hb, hf _ hb⟩
  · exact ⟨h, hf _ h⟩
theorem ni_L : Cond.initialized RL ∈ j_gw := j_mem (j_c1 (i := 0) (by decide +kernel)) rfl
theorem ni_X9 : Cond.initialized RX9 ∈ j_gw := j_mem (j_c1 (i := 1) (by decide +kernel)) rfl
theorem ni_X4 : Cond.initialized RX4 ∈ j_gw := j_mem (j_c1 (i := 2) (by decide +kernel)) rfl
theorem ni_J7 : Cond.initialized RJ7 ∈ j_gw := j_mem (j_c1 (i := 3) (by decide +kernel)) rfl
theorem ni_X3 : Cond.initialized RX3 ∈ j_gw := j_mem (j_c1 (i := 4) (by decide +kernel)) rfl
theorem ni_X2 : Cond.initialized RX2 ∈ j_gw := j_mem (j_c1 (i := 5) (by decide +kernel)) rfl
theorem ni_X1 : Cond.initialized RX1 ∈ j_gw := j_mem (j_c1 (i := 6) (by decide +kernel)) rfl
theorem ni_X0 : Cond.initialized RX0 ∈ j_gw := j_mem (j_c1 (i := 7) (by decide +kernel)) rfl
theorem ni_X8 : Cond.initialized RX8 ∈ j_gw := j_mem (j_c1 (i := 8) (by decide +kernel)) rfl
theorem ni_X6 : Cond.initialized RX6 ∈ j_gw := j_mem (j_c1 (i := 9) (by decide +kernel)) rfl
theorem ni_X7 : Cond.initialized RX7 ∈ j_gw := j_mem (j_c1 (i := 10) (by decide +kernel)) rfl
theorem ni_X5 : Cond.initialized RX5 ∈ j_gw := j_mem (j_c1 (i := 11) (by decide +kernel)) rfl
theorem ni_X10 : Cond.initialized RX10 ∈ j_gw := j_mem (j_c1 (i := 12) (by decide +kernel)) rfl
theorem ni_J10 : Cond.initialized RJ10 ∈ j_gw := j_mem (j_c1 (i := 13) (by decide +kernel)) rfl
theorem ni_Jxd2413 : Cond.initialized RJxd2413 ∈ j_gw := j_mem (j_c1 (i := 14) (by decide +kernel)) rfl
theorem ni_J6 : Cond.initialized RJ6 ∈ j_gw := j_mem (j_c1 (i := 15) (by decide +kernel)) rfl
theorem ni_J0 : Cond.initialized RJ0 ∈ j_gw := j_mem (j_c1 (i := 16) (by decide +kernel)) rfl
theorem ni_J1 : Cond.initialized RJ1 ∈ j_gw := j_mem (j_c1 (i := 17) (by decide +kernel)) rfl
theorem ni_J3 : Cond.initialized RJ3 ∈ j_gw := j_mem (j_c1 (i := 18) (by decide +kernel)) rfl
theorem ni_J2 : Cond.initialized RJ2 ∈ j_gw := j_mem (j_c1 (i := 19) (by decide +kernel)) rfl
theorem ni_J9 : Cond.initialized RJ9 ∈ j_gw := j_mem (j_c1 (i := 20) (by decide +kernel)) rfl
theorem clL_7 : Cond.classLink RL 7 RX9 ∈ j_gw := j_mem (j_c1 (i := 21) (by decide +kernel)) rfl
theorem in_X9 : Cond.instantiable RX9 12 ∈ j_gw := j_mem (j_c1 (i := 22) (by decide +kernel)) rfl
theorem mlL_9 : Cond.methodLink RL 9 yX9_init ∈ j_gw := j_mem (j_c1 (i := 23) (by decide +kernel)) rfl
theorem im_X9_init : Cond.instanceMethod yX9_init ∈ j_gw := j_mem (j_c1 (i := 24) (by decide +kernel)) rfl
theorem cd_X9_init : Cond.code yX9_init cX9_init 2 none ∈ j_gw := j_mem (j_c1 (i := 25) (by decide +kernel)) rfl
theorem mlX9_3 : Cond.methodLink RX9 3 objectInit ∈ j_gw := j_mem (j_c1 (i := 26) (by decide +kernel)) rfl
theorem im_oi : Cond.instanceMethod objectInit ∈ j_gw := j_mem (j_c1 (i := 27) (by decide +kernel)) rfl
theorem clX9_9 : Cond.classLink RX9 9 RX4 ∈ j_gw := j_mem (j_c1 (i := 29) (by decide +kernel)) rfl
theorem in_X4 : Cond.instantiable RX4 8 ∈ j_gw := j_mem (j_c1 (i := 30) (by decide +kernel)) rfl
theorem mlX9_11 : Cond.methodLinkNest RX9 11 yX4_init "SeenInOrderOfAge" ∈ j_nw := j_memN (j_c1 (i := 31) (by decide +kernel)) rfl
theorem im_X4_init : Cond.instanceMethod yX4_init ∈ j_gw := j_mem (j_c1 (i := 32) (by decide +kernel)) rfl
theorem cd_X4_init : Cond.code yX4_init cX4_init 2 none ∈ j_gw := j_mem (j_c1 (i := 33) (by decide +kernel)) rfl
theorem mlX4_3 : Cond.methodLink RX4 3 objectInit ∈ j_gw := j_mem (j_c1 (i := 34) (by decide +kernel)) rfl
theorem clX4_18 : Cond.classLink RX4 18 RX3 ∈ j_gw := j_mem (j_c1 (i := 35) (by decide +kernel)) rfl
theorem mlX4_31 : Cond.methodLink RX4 31 yJ7_fill_53178 ∈ j_gw := j_mem (j_c1 (i := 37) (by decide +kernel)) rfl
theorem sm_J7_fill_53178 : Cond.static yJ7_fill_53178 ∈ j_gw := j_mem (j_c1 (i := 38) (by decide +kernel)) rfl
theorem cd_J7_fill_53178 : Cond.code yJ7_fill_53178 cJ7_fill_53178 4 none ∈ j_gw := j_mem (j_c1 (i := 39) (by decide +kernel)) rfl
theorem in_X3 : Cond.instantiable RX3 7 ∈ j_gw := j_mem (j_c1 (i := 40) (by decide +kernel)) rfl
theorem mlX4_37 : Cond.methodLinkNest RX4 37 yX3_init "SeenInOrderOfAge" ∈ j_nw := j_memN (j_c1 (i := 41) (by decide +kernel)) rfl
theorem im_X3_init : Cond.instanceMethod yX3_init ∈ j_gw := j_mem (j_c1 (i := 42) (by decide +kernel)) rfl
theorem cd_X3_init : Cond.code yX3_init cX3_init 1 none ∈ j_gw := j_mem (j_c1 (i := 43) (by decide +kernel)) rfl
theorem mlX3_3 : Cond.methodLink RX3 3 objectInit ∈ j_gw := j_mem (j_c1 (i := 44) (by decide +kernel)) rfl
theorem flX3_9 : Cond.fieldLink RX3 9 "SeenInOrderOfAge$Looker" "has" "[I" ∈ j_gw := j_mem (j_c1 (i := 45) (by decide +kernel)) rfl
theorem flX9_230 : Cond.fieldLinkNest RX9 230 "SeenInOrderOfAge$Looker" "has" "[I" "SeenInOrderOfAge" ∈ j_nw := j_memN (j_c1 (i := 46) (by decide +kernel)) rfl
theorem flX3_15 : Cond.fieldLink RX3 15 "SeenInOrderOfAge$Looker" "kind" "I" ∈ j_gw := j_mem (j_c1 (i := 47) (by decide +kernel)) rfl
theorem flX8_77 : Cond.fieldLinkNest RX8 77 "SeenInOrderOfAge$Looker" "kind" "I" "SeenInOrderOfAge" ∈ j_nw := j_memN (j_c1 (i := 48) (by decide +kernel)) rfl
theorem flX9_139 : Cond.fieldLinkNest RX9 139 "SeenInOrderOfAge$Looker" "kind" "I" "SeenInOrderOfAge" ∈ j_nw := j_memN (j_c1 (i := 49) (by decide +kernel)) rfl
theorem flX4_82 : Cond.fieldLinkNest RX4 82 "SeenInOrderOfAge$Looker" "kind" "I" "SeenInOrderOfAge" ∈ j_nw := j_memN (j_c1 (i := 50) (by decide +kernel)) rfl
theorem flX3_19 : Cond.fieldLink RX3 19 "SeenInOrderOfAge$Looker" "a" "I" ∈ j_gw := j_mem (j_c1 (i := 51) (by decide +kernel)) rfl
theorem flX8_48 : Cond.fieldLinkNest RX8 48 "SeenInOrderOfAge$Looker" "a" "I" "SeenInOrderOfAge" ∈ j_nw := j_memN (j_c1 (i := 52) (by decide +kernel)) rfl
theorem flX2_44 : Cond.fieldLinkNest RX2 44 "SeenInOrderOfAge$Looker" "a" "I" "SeenInOrderOfAge" ∈ j_nw := j_memN (j_c1 (i := 53) (by decide +kernel)) rfl
theorem flX6_55 : Cond.fieldLinkNest RX6 55 "SeenInOrderOfAge$Looker" "a" "I" "SeenInOrderOfAge" ∈ j_nw := j_memN (j_c1 (i := 54) (by decide +kernel)) rfl
theorem flX4_71 : Cond.fieldLinkNest RX4 71 "SeenInOrderOfAge$Looker" "a" "I" "SeenInOrderOfAge" ∈ j_nw := j_memN (j_c1 (i := 55) (by decide +kernel)) rfl
theorem flX9_224 : Cond.fieldLinkNest RX9 224 "SeenInOrderOfAge$Looker" "a" "I" "SeenInOrderOfAge" ∈ j_nw := j_memN (j_c1 (i := 56) (by decide +kernel)) rfl
theorem flX3_22 : Cond.fieldLink RX3 22 "SeenInOrderOfAge$Looker" "age" "I" ∈ j_gw := j_mem (j_c1 (i := 57) (by decide +kernel)) rfl
theorem flX4_68 : Cond.fieldLinkNest RX4 68 "SeenInOrderOfAge$Looker" "age" "I" "SeenInOrderOfAge" ∈ j_nw := j_memN (j_c1 (i := 58) (by decide +kernel)) rfl
theorem flX9_147 : Cond.fieldLinkNest RX9 147 "SeenInOrderOfAge$Looker" "age" "I" "SeenInOrderOfAge" ∈ j_nw := j_memN (j_c1 (i := 59) (by decide +kernel)) rfl
theorem flX8_83 : Cond.fieldLinkNest RX8 83 "SeenInOrderOfAge$Looker" "age" "I" "SeenInOrderOfAge" ∈ j_nw := j_memN (j_c1 (i := 60) (by decide +kernel)) rfl
theorem flX3_25 : Cond.fieldLink RX3 25 "SeenInOrderOfAge$Looker" "liked" "I" ∈ j_gw := j_mem (j_c1 (i := 61) (by decide +kernel)) rfl
theorem flX6_61 : Cond.fieldLinkNest RX6 61 "SeenInOrderOfAge$Looker" "liked" "I" "SeenInOrderOfAge" ∈ j_nw := j_memN (j_c1 (i := 62) (by decide +kernel)) rfl
theorem flX9_181 : Cond.fieldLinkNest RX9 181 "SeenInOrderOfAge$Looker" "liked" "I" "SeenInOrderOfAge" ∈ j_nw := j_memN (j_c1 (i := 63) (by decide +kernel)) rfl
theorem flX3_28 : Cond.fieldLink RX3 28 "SeenInOrderOfAge$Looker" "comes" "I" ∈ j_gw := j_mem (j_c1 (i := 64) (by decide +kernel)) rfl
theorem flX0_28 : Cond.fieldLinkNest RX0 28 "SeenInOrderOfAge$Looker" "comes" "I" "SeenInOrderOfAge" ∈ j_nw := j_memN (j_c1 (i := 65) (by decide +kernel)) rfl
theorem flX7_89 : Cond.fieldLinkNest RX7 89 "SeenInOrderOfAge$Looker" "comes" "I" "SeenInOrderOfAge" ∈ j_nw := j_memN (j_c1 (i := 66) (by decide +kernel)) rfl
theorem flX9_198 : Cond.fieldLinkNest RX9 198 "SeenInOrderOfAge$Looker" "comes" "I" "SeenInOrderOfAge" ∈ j_nw := j_memN (j_c1 (i := 67) (by decide +kernel)) rfl
theorem flX4_143 : Cond.fieldLinkNest RX4 143 "SeenInOrderOfAge$Looker" "comes" "I" "SeenInOrderOfAge" ∈ j_nw := j_memN (j_c1 (i := 68) (by decide +kernel)) rfl
theorem flX3_31 : Cond.fieldLink RX3 31 "SeenInOrderOfAge$Looker" "shine" "I" ∈ j_gw := j_mem (j_c1 (i := 69) (by decide +kernel)) rfl
theorem flX6_50 : Cond.fieldLinkNest RX6 50 "SeenInOrderOfAge$Looker" "shine" "I" "SeenInOrderOfAge" ∈ j_nw := j_memN (j_c1 (i := 70) (by decide +kernel)) rfl
theorem flX2_83 : Cond.fieldLinkNest RX2 83 "SeenInOrderOfAge$Looker" "shine" "I" "SeenInOrderOfAge" ∈ j_nw := j_memN (j_c1 (i := 71) (by decide +kernel)) rfl
theorem flX7_92 : Cond.fieldLinkNest RX7 92 "SeenInOrderOfAge$Looker" "shine" "I" "SeenInOrderOfAge" ∈ j_nw := j_memN (j_c1 (i := 72) (by decide +kernel)) rfl
theorem flX9_204 : Cond.fieldLinkNest RX9 204 "SeenInOrderOfAge$Looker" "shine" "I" "SeenInOrderOfAge" ∈ j_nw := j_memN (j_c1 (i := 73) (by decide +kernel)) rfl
theorem flX4_117 : Cond.fieldLinkNest RX4 117 "SeenInOrderOfAge$Looker" "shine" "I" "SeenInOrderOfAge" ∈ j_nw := j_memN (j_c1 (i := 74) (by decide +kernel)) rfl
theorem ac_90 : Cond.arrayClass FieldType.int ∈ j_gw := j_mem (j_c1 (i := 90) (by decide +kernel)) rfl
theorem flX4_9 : Cond.fieldLink RX4 9 "SeenInOrderOfAge$Scene" "sortIn" "[I" ∈ j_gw := j_mem (j_c1 (i := 91) (by decide +kernel)) rfl
theorem flX8_57 : Cond.fieldLinkNest RX8 57 "SeenInOrderOfAge$Scene" "sortIn" "[I" "SeenInOrderOfAge" ∈ j_nw := j_memN (j_c1 (i := 92) (by decide +kernel)) rfl
theorem flX2_76 : Cond.fieldLinkNest RX2 76 "SeenInOrderOfAge$Scene" "sortIn" "[I" "SeenInOrderOfAge" ∈ j_nw := j_memN (j_c1 (i := 93) (by decide +kernel)) rfl
theorem flX9_163 : Cond.fieldLinkNest RX9 163 "SeenInOrderOfAge$Scene" "sortIn" "[I" "SeenInOrderOfAge" ∈ j_nw := j_memN (j_c1 (i := 94) (by decide +kernel)) rfl
theorem flX4_15 : Cond.fieldLink RX4 15 "SeenInOrderOfAge$Scene" "placesWith" "[I" ∈ j_gw := j_mem (j_c1 (i := 95) (by decide +kernel)) rfl
theorem flX2_41 : Cond.fieldLinkNest RX2 41 "SeenInOrderOfAge$Scene" "placesWith" "[I" "SeenInOrderOfAge" ∈ j_nw := j_memN (j_c1 (i := 96) (by decide +kernel)) rfl
theorem flX9_233 : Cond.fieldLinkNest RX9 233 "SeenInOrderOfAge$Scene" "placesWith" "[I" "SeenInOrderOfAge" ∈ j_nw := j_memN (j_c1 (i := 97) (by decide +kernel)) rfl
theorem flX4_20 : Cond.fieldLink RX4 20 "SeenInOrderOfAge$Scene" "all" "[LSeenInOrderOfAge$Looker;" ∈ j_gw := j_mem (j_c1 (i := 98) (by decide +kernel)) rfl
theorem flX0_24 : Cond.fieldLinkNest RX0 24 "SeenInOrderOfAge$Scene" "all" "[LSeenInOrderOfAge$Looker;" "SeenInOrderOfAge" ∈ j_nw := j_memN (j_c1 (i := 99) (by decide +kernel)) rfl
theorem flX2_33 : Cond.fieldLinkNest RX2 33 "SeenInOrderOfAge$Scene" "all" "[LSeenInOrderOfAge$Looker;" "SeenInOrderOfAge" ∈ j_nw := j_memN (j_c1 (i := 100) (by decide +kernel)) rfl
theorem flX8_44 : Cond.fieldLinkNest RX8 44 "SeenInOrderOfAge$Scene" "all" "[LSeenInOrderOfAge$Looker;" "SeenInOrderOfAge" ∈ j_nw := j_memN (j_c1 (i := 101) (by decide +kernel)) rfl
theorem flX6_46 : Cond.fieldLinkNest RX6 46 "SeenInOrderOfAge$Scene" "all" "[LSeenInOrderOfAge$Looker;" "SeenInOrderOfAge" ∈ j_nw := j_memN (j_c1 (i := 102) (by decide +kernel)) rfl
theorem flX9_135 : Cond.fieldLinkNest RX9 135 "SeenInOrderOfAge$Scene" "all" "[LSeenInOrderOfAge$Looker;" "SeenInOrderOfAge" ∈ j_nw := j_memN (j_c1 (i := 103) (by decide +kernel)) rfl
theorem flX7_79 : Cond.fieldLinkNest RX7 79 "SeenInOrderOfAge$Scene" "all" "[LSeenInOrderOfAge$Looker;" "SeenInOrderOfAge" ∈ j_nw := j_memN (j_c1 (i := 104) (by decide +kernel)) rfl
theorem flX4_24 : Cond.fieldLink RX4 24 "SeenInOrderOfAge$Scene" "byAge" "[I" ∈ j_gw := j_mem (j_c1 (i := 105) (by decide +kernel)) rfl
theorem flX2_30 : Cond.fieldLinkNest RX2 30 "SeenInOrderOfAge$Scene" "byAge" "[I" "SeenInOrderOfAge" ∈ j_nw := j_memN (j_c1 (i := 106) (by decide +kernel)) rfl
theorem flX1_37 : Cond.fieldLinkNest RX1 37 "SeenInOrderOfAge$Scene" "filled" "I" "SeenInOrderOfAge" ∈ j_nw := j_memN (j_c1 (i := 107) (by decide +kernel)) rfl
theorem flX4_51 : Cond.fieldLink RX4 51 "SeenInOrderOfAge$Scene" "filled" "I" ∈ j_gw := j_mem (j_c1 (i := 108) (by decide +kernel)) rfl
theorem flX2_49 : Cond.fieldLinkNest RX2 49 "SeenInOrderOfAge$Scene" "filled" "I" "SeenInOrderOfAge" ∈ j_nw := j_memN (j_c1 (i := 109) (by decide +kernel)) rfl
theorem flX0_39 : Cond.fieldLinkNest RX0 39 "SeenInOrderOfAge$Scene" "filled" "I" "SeenInOrderOfAge" ∈ j_nw := j_memN (j_c1 (i := 110) (by decide +kernel)) rfl
theorem flX8_63 : Cond.fieldLinkNest RX8 63 "SeenInOrderOfAge$Scene" "filled" "I" "SeenInOrderOfAge" ∈ j_nw := j_memN (j_c1 (i := 111) (by decide +kernel)) rfl
theorem flX9_150 : Cond.fieldLinkNest RX9 150 "SeenInOrderOfAge$Scene" "filled" "I" "SeenInOrderOfAge" ∈ j_nw := j_memN (j_c1 (i := 112) (by decide +kernel)) rfl
theorem flX0_18 : Cond.fieldLinkNest RX0 18 "SeenInOrderOfAge$Scene" "count" "I" "SeenInOrderOfAge" ∈ j_nw := j_memN (j_c1 (i := 113) (by decide +kernel)) rfl
theorem flX2_25 : Cond.fieldLinkNest RX2 25 "SeenInOrderOfAge$Scene" "count" "I" "SeenInOrderOfAge" ∈ j_nw := j_memN (j_c1 (i := 114) (by decide +kernel)) rfl
theorem flX8_40 : Cond.fieldLinkNest RX8 40 "SeenInOrderOfAge$Scene" "count" "I" "SeenInOrderOfAge" ∈ j_nw := j_memN (j_c1 (i := 115) (by decide +kernel)) rfl
theorem flX4_44 : Cond.fieldLink RX4 44 "SeenInOrderOfAge$Scene" "count" "I" ∈ j_gw := j_mem (j_c1 (i := 116) (by decide +kernel)) rfl
theorem flX6_34 : Cond.fieldLinkNest RX6 34 "SeenInOrderOfAge$Scene" "count" "I" "SeenInOrderOfAge" ∈ j_nw := j_memN (j_c1 (i := 117) (by decide +kernel)) rfl
theorem flX7_76 : Cond.fieldLinkNest RX7 76 "SeenInOrderOfAge$Scene" "count" "I" "SeenInOrderOfAge" ∈ j_nw := j_memN (j_c1 (i := 118) (by decide +kernel)) rfl
theorem flX9_299 : Cond.fieldLinkNest RX9 299 "SeenInOrderOfAge$Scene" "count" "I" "SeenInOrderOfAge" ∈ j_nw := j_memN (j_c1 (i := 119) (by decide +kernel)) rfl
theorem flX4_54 : Cond.fieldLink RX4 54 "SeenInOrderOfAge$Scene" "evenings" "I" ∈ j_gw := j_mem (j_c1 (i := 120) (by decide +kernel)) rfl
theorem flX2_64 : Cond.fieldLinkNest RX2 64 "SeenInOrderOfAge$Scene" "evenings" "I" "SeenInOrderOfAge" ∈ j_nw := j_memN (j_c1 (i := 121) (by decide +kernel)) rfl
theorem flX9_384 : Cond.fieldLinkNest RX9 384 "SeenInOrderOfAge$Scene" "evenings" "I" "SeenInOrderOfAge" ∈ j_nw := j_memN (j_c1 (i := 122) (by decide +kernel)) rfl
theorem flX4_27 : Cond.fieldLink RX4 27 "SeenInOrderOfAge$Scene" "drawSeed" "I" ∈ j_gw := j_mem (j_c1 (i := 123) (by decide +kernel)) rfl
theorem flX9_374 : Cond.fieldLinkNest RX9 374 "SeenInOrderOfAge$Scene" "drawSeed" "I" "SeenInOrderOfAge" ∈ j_nw := j_memN (j_c1 (i := 124) (by decide +kernel)) rfl
theorem clX9_22 : Cond.classLink RX9 22 RX2 ∈ j_gw := j_mem (j_c1 (i := 142) (by decide +kernel)) rfl
theorem in_X2 : Cond.instantiable RX2 4 ∈ j_gw := j_mem (j_c1 (i := 143) (by decide +kernel)) rfl
theorem mlX9_24 : Cond.methodLinkNest RX9 24 yX2_init "SeenInOrderOfAge" ∈ j_nw := j_memN (j_c1 (i := 144) (by decide +kernel)) rfl
theorem im_X2_init : Cond.instanceMethod yX2_init ∈ j_gw := j_mem (j_c1 (i := 145) (by decide +kernel)) rfl
theorem cd_X2_init : Cond.code yX2_init cX2_init 1 none ∈ j_gw := j_mem (j_c1 (i := 146) (by decide +kernel)) rfl
theorem mlX2_3 : Cond.methodLink RX2 3 objectInit ∈ j_gw := j_mem (j_c1 (i := 147) (by decide +kernel)) rfl
theorem flX2_9 : Cond.fieldLink RX2 9 "SeenInOrderOfAge$Evening" "takenBy" "[I" ∈ j_gw := j_mem (j_c1 (i := 148) (by decide +kernel)) rfl
theorem flX8_80 : Cond.fieldLinkNest RX8 80 "SeenInOrderOfAge$Evening" "takenBy" "[I" "SeenInOrderOfAge" ∈ j_nw := j_memN (j_c1 (i := 149) (by decide +kernel)) rfl
theorem flX9_267 : Cond.fieldLinkNest RX9 267 "SeenInOrderOfAge$Evening" "takenBy" "[I" "SeenInOrderOfAge" ∈ j_nw := j_memN (j_c1 (i := 150) (by decide +kernel)) rfl
theorem flX2_15 : Cond.fieldLink RX2 15 "SeenInOrderOfAge$Evening" "rest" "I" ∈ j_gw := j_mem (j_c1 (i := 151) (by decide +kernel)) rfl
theorem flX0_46 : Cond.fieldLinkNest RX0 46 "SeenInOrderOfAge$Evening" "rest" "I" "SeenInOrderOfAge" ∈ j_nw := j_memN (j_c1 (i := 152) (by decide +kernel)) rfl
theorem flX1_53 : Cond.fieldLinkNest RX1 53 "SeenInOrderOfAge$Evening" "rest" "I" "SeenInOrderOfAge" ∈ j_nw := j_memN (j_c1 (i := 153) (by decide +kernel)) rfl
theorem flX9_264 : Cond.fieldLinkNest RX9 264 "SeenInOrderOfAge$Evening" "rest" "I" "SeenInOrderOfAge" ∈ j_nw := j_memN (j_c1 (i := 154) (by decide +kernel)) rfl
theorem flX2_19 : Cond.fieldLink RX2 19 "SeenInOrderOfAge$Evening" "gladSet" "I" ∈ j_gw := j_mem (j_c1 (i := 155) (by decide +kernel)) rfl
theorem flX1_44 : Cond.fieldLinkNest RX1 44 "SeenInOrderOfAge$Evening" "gladSet" "I" "SeenInOrderOfAge" ∈ j_nw := j_memN (j_c1 (i := 156) (by decide +kernel)) rfl
theorem flX8_70 : Cond.fieldLinkNest RX8 70 "SeenInOrderOfAge$Evening" "gladSet" "I" "SeenInOrderOfAge" ∈ j_nw := j_memN (j_c1 (i := 157) (by decide +kernel)) rfl
theorem flX0_59 : Cond.fieldLinkNest RX0 59 "SeenInOrderOfAge$Evening" "gladSet" "I" "SeenInOrderOfAge" ∈ j_nw := j_memN (j_c1 (i := 158) (by decide +kernel)) rfl
theorem flX9_270 : Cond.fieldLinkNest RX9 270 "SeenInOrderOfAge$Evening" "gladSet" "I" "SeenInOrderOfAge" ∈ j_nw := j_memN (j_c1 (i := 159) (by decide +kernel)) rfl
theorem flX2_22 : Cond.fieldLink RX2 22 "SeenInOrderOfAge$Evening" "emptySet" "I" ∈ j_gw := j_mem (j_c1 (i := 160) (by decide +kernel)) rfl
theorem flX9_273 : Cond.fieldLinkNest RX9 273 "SeenInOrderOfAge$Evening" "emptySet" "I" "SeenInOrderOfAge" ∈ j_nw := j_memN (j_c1 (i := 161) (by decide +kernel)) rfl
theorem clX9_29 : Cond.classLink RX9 29 RX1 ∈ j_gw := j_mem (j_c1 (i := 171) (by decide +kernel)) rfl
theorem in_X1 : Cond.instantiable RX1 5 ∈ j_gw := j_mem (j_c1 (i := 172) (by decide +kernel)) rfl
theorem mlX9_31 : Cond.methodLinkNest RX9 31 yX1_init "SeenInOrderOfAge" ∈ j_nw := j_memN (j_c1 (i := 173) (by decide +kernel)) rfl
theorem im_X1_init : Cond.instanceMethod yX1_init ∈ j_gw := j_mem (j_c1 (i := 174) (by decide +kernel)) rfl
theorem cd_X1_init : Cond.code yX1_init cX1_init 1 none ∈ j_gw := j_mem (j_c1 (i := 175) (by decide +kernel)) rfl
theorem mlX1_3 : Cond.methodLink RX1 3 objectInit ∈ j_gw := j_mem (j_c1 (i := 176) (by decide +kernel)) rfl
theorem clX1_9 : Cond.classLink RX1 9 RX2 ∈ j_gw := j_mem (j_c1 (i := 177) (by decide +kernel)) rfl
theorem mlX1_11 : Cond.methodLinkNest RX1 11 yX2_init "SeenInOrderOfAge" ∈ j_nw := j_memN (j_c1 (i := 178) (by decide +kernel)) rfl
theorem flX1_12 : Cond.fieldLink RX1 12 "SeenInOrderOfAge$Crowds" "look" "LSeenInOrderOfAge$Evening;" ∈ j_gw := j_mem (j_c1 (i := 179) (by decide +kernel)) rfl
theorem flX1_24 : Cond.fieldLink RX1 24 "SeenInOrderOfAge$Crowds" "number" "I" ∈ j_gw := j_mem (j_c1 (i := 180) (by decide +kernel)) rfl
theorem flX9_293 : Cond.fieldLinkNest RX9 293 "SeenInOrderOfAge$Crowds" "number" "I" "SeenInOrderOfAge" ∈ j_nw := j_memN (j_c1 (i := 181) (by decide +kernel)) rfl
theorem flX1_28 : Cond.fieldLink RX1 28 "SeenInOrderOfAge$Crowds" "found" "I" ∈ j_gw := j_mem (j_c1 (i := 182) (by decide +kernel)) rfl
theorem flX9_296 : Cond.fieldLinkNest RX9 296 "SeenInOrderOfAge$Crowds" "found" "I" "SeenInOrderOfAge" ∈ j_nw := j_memN (j_c1 (i := 183) (by decide +kernel)) rfl
theorem flX1_47 : Cond.fieldLink RX1 47 "SeenInOrderOfAge$Crowds" "inAll" "I" ∈ j_gw := j_mem (j_c1 (i := 184) (by decide +kernel)) rfl
theorem flX9_311 : Cond.fieldLinkNest RX9 311 "SeenInOrderOfAge$Crowds" "inAll" "I" "SeenInOrderOfAge" ∈ j_nw := j_memN (j_c1 (i := 185) (by decide +kernel)) rfl
theorem flX1_50 : Cond.fieldLink RX1 50 "SeenInOrderOfAge$Crowds" "inSome" "I" ∈ j_gw := j_mem (j_c1 (i := 186) (by decide +kernel)) rfl
theorem flX9_314 : Cond.fieldLinkNest RX9 314 "SeenInOrderOfAge$Crowds" "inSome" "I" "SeenInOrderOfAge" ∈ j_nw := j_memN (j_c1 (i := 187) (by decide +kernel)) rfl
theorem clX9_36 : Cond.classLink RX9 36 RX0 ∈ j_gw := j_mem (j_c1 (i := 199) (by decide +kernel)) rfl
theorem in_X0 : Cond.instantiable RX0 1 ∈ j_gw := j_mem (j_c1 (i := 200) (by decide +kernel)) rfl
theorem mlX9_38 : Cond.methodLinkNest RX9 38 yX0_init "SeenInOrderOfAge" ∈ j_nw := j_memN (j_c1 (i := 201) (by decide +kernel)) rfl
theorem im_X0_init : Cond.instanceMethod yX0_init ∈ j_gw := j_mem (j_c1 (i := 202) (by decide +kernel)) rfl
theorem cd_X0_init : Cond.code yX0_init cX0_init 1 none ∈ j_gw := j_mem (j_c1 (i := 203) (by decide +kernel)) rfl
theorem mlX0_3 : Cond.methodLink RX0 3 objectInit ∈ j_gw := j_mem (j_c1 (i := 204) (by decide +kernel)) rfl
theorem clX0_9 : Cond.classLink RX0 9 RX2 ∈ j_gw := j_mem (j_c1 (i := 205) (by decide +kernel)) rfl
theorem mlX0_11 : Cond.methodLinkNest RX0 11 yX2_init "SeenInOrderOfAge" ∈ j_nw := j_memN (j_c1 (i := 206) (by decide +kernel)) rfl
theorem flX0_12 : Cond.fieldLink RX0 12 "SeenInOrderOfAge$Chances" "look" "LSeenInOrderOfAge$Evening;" ∈ j_gw := j_mem (j_c1 (i := 207) (by decide +kernel)) rfl
theorem clX9_43 : Cond.classLink RX9 43 RX8 ∈ j_gw := j_mem (j_c1 (i := 211) (by decide +kernel)) rfl
theorem in_X8 : Cond.instantiable RX8 4 ∈ j_gw := j_mem (j_c1 (i := 212) (by decide +kernel)) rfl
theorem mlX9_45 : Cond.methodLinkNest RX9 45 yX8_init "SeenInOrderOfAge" ∈ j_nw := j_memN (j_c1 (i := 213) (by decide +kernel)) rfl
theorem im_X8_init : Cond.instanceMethod yX8_init ∈ j_gw := j_mem (j_c1 (i := 214) (by decide +kernel)) rfl
theorem cd_X8_init : Cond.code yX8_init cX8_init 1 none ∈ j_gw := j_mem (j_c1 (i := 215) (by decide +kernel)) rfl
theorem mlX8_3 : Cond.methodLink RX8 3 objectInit ∈ j_gw := j_mem (j_c1 (i := 216) (by decide +kernel)) rfl
theorem clX8_9 : Cond.classLink RX8 9 RX4 ∈ j_gw := j_mem (j_c1 (i := 217) (by decide +kernel)) rfl
theorem mlX8_11 : Cond.methodLinkNest RX8 11 yX4_init "SeenInOrderOfAge" ∈ j_nw := j_memN (j_c1 (i := 218) (by decide +kernel)) rfl
theorem clX8_18 : Cond.classLink RX8 18 RX2 ∈ j_gw := j_mem (j_c1 (i := 219) (by decide +kernel)) rfl
theorem mlX8_20 : Cond.methodLinkNest RX8 20 yX2_init "SeenInOrderOfAge" ∈ j_nw := j_memN (j_c1 (i := 220) (by decide +kernel)) rfl
theorem flX8_12 : Cond.fieldLink RX8 12 "SeenInOrderOfAge$Trials" "trial" "LSeenInOrderOfAge$Scene;" ∈ j_gw := j_mem (j_c1 (i := 221) (by decide +kernel)) rfl
theorem flX8_21 : Cond.fieldLink RX8 21 "SeenInOrderOfAge$Trials" "look" "LSeenInOrderOfAge$Evening;" ∈ j_gw := j_mem (j_c1 (i := 222) (by decide +kernel)) rfl
theorem flX8_25 : Cond.fieldLink RX8 25 "SeenInOrderOfAge$Trials" "emptyPlaces" "[I" ∈ j_gw := j_mem (j_c1 (i := 223) (by decide +kernel)) rfl
theorem flX8_29 : Cond.fieldLink RX8 29 "SeenInOrderOfAge$Trials" "setOut" "[I" ∈ j_gw := j_mem (j_c1 (i := 224) (by decide +kernel)) rfl
theorem clX9_50 : Cond.classLink RX9 50 RX6 ∈ j_gw := j_mem (j_c1 (i := 234) (by decide +kernel)) rfl
theorem in_X6 : Cond.instantiable RX6 2 ∈ j_gw := j_mem (j_c1 (i := 235) (by decide +kernel)) rfl
theorem mlX9_52 : Cond.methodLinkNest RX9 52 yX6_init "SeenInOrderOfAge" ∈ j_nw := j_memN (j_c1 (i := 236) (by decide +kernel)) rfl
theorem im_X6_init : Cond.instanceMethod yX6_init ∈ j_gw := j_mem (j_c1 (i := 237) (by decide +kernel)) rfl
theorem cd_X6_init : Cond.code yX6_init cX6_init 1 none ∈ j_gw := j_mem (j_c1 (i := 238) (by decide +kernel)) rfl
theorem mlX6_3 : Cond.methodLink RX6 3 objectInit ∈ j_gw := j_mem (j_c1 (i := 239) (by decide +kernel)) rfl
theorem flX6_9 : Cond.fieldLink RX6 9 "SeenInOrderOfAge$Swaps" "wish" "[I" ∈ j_gw := j_mem (j_c2 (i := 0) (by decide +kernel)) rfl
theorem flX6_15 : Cond.fieldLink RX6 15 "SeenInOrderOfAge$Swaps" "gets" "[I" ∈ j_gw := j_mem (j_c2 (i := 1) (by decide +kernel)) rfl
theorem flX9_356 : Cond.fieldLinkNest RX9 356 "SeenInOrderOfAge$Swaps" "gets" "[I" "SeenInOrderOfAge" ∈ j_nw := j_memN (j_c2 (i := 2) (by decide +kernel)) rfl
theorem clX9_57 : Cond.classLink RX9 57 RX7 ∈ j_gw := j_mem (j_c2 (i := 8) (by decide +kernel)) rfl
theorem in_X7 : Cond.instantiable RX7 4 ∈ j_gw := j_mem (j_c2 (i := 9) (by decide +kernel)) rfl
theorem mlX9_59 : Cond.methodLinkNest RX9 59 yX7_init "SeenInOrderOfAge" ∈ j_nw := j_memN (j_c2 (i := 10) (by decide +kernel)) rfl
theorem im_X7_init : Cond.instanceMethod yX7_init ∈ j_gw := j_mem (j_c2 (i := 11) (by decide +kernel)) rfl
theorem cd_X7_init : Cond.code yX7_init cX7_init 1 none ∈ j_gw := j_mem (j_c2 (i := 12) (by decide +kernel)) rfl
theorem mlX7_3 : Cond.methodLink RX7 3 objectInit ∈ j_gw := j_mem (j_c2 (i := 13) (by decide +kernel)) rfl
theorem flX7_9 : Cond.fieldLink RX7 9 "SeenInOrderOfAge$Tape" "bytes" "[I" ∈ j_gw := j_mem (j_c2 (i := 14) (by decide +kernel)) rfl
theorem flX7_19 : Cond.fieldLink RX7 19 "SeenInOrderOfAge$Tape" "size" "I" ∈ j_gw := j_mem (j_c2 (i := 15) (by decide +kernel)) rfl
theorem flX9_209 : Cond.fieldLinkNest RX9 209 "SeenInOrderOfAge$Tape" "size" "I" "SeenInOrderOfAge" ∈ j_nw := j_memN (j_c2 (i := 16) (by decide +kernel)) rfl
theorem flX7_22 : Cond.fieldLink RX7 22 "SeenInOrderOfAge$Tape" "at" "I" ∈ j_gw := j_mem (j_c2 (i := 17) (by decide +kernel)) rfl
theorem flX7_15 : Cond.fieldLink RX7 15 "SeenInOrderOfAge$Tape" "fault" "I" ∈ j_gw := j_mem (j_c2 (i := 18) (by decide +kernel)) rfl
theorem flX9_221 : Cond.fieldLinkNest RX9 221 "SeenInOrderOfAge$Tape" "fault" "I" "SeenInOrderOfAge" ∈ j_nw := j_memN (j_c2 (i := 19) (by decide +kernel)) rfl
theorem clX9_64 : Cond.classLink RX9 64 RX5 ∈ j_gw := j_mem (j_c2 (i := 29) (by decide +kernel)) rfl
theorem in_X5 : Cond.instantiable RX5 3 ∈ j_gw := j_mem (j_c2 (i := 31) (by decide +kernel)) rfl
theorem mlX9_74 : Cond.methodLinkNest RX9 74 yX5_init "SeenInOrderOfAge" ∈ j_nw := j_memN (j_c2 (i := 32) (by decide +kernel)) rfl
theorem im_X5_init : Cond.instanceMethod yX5_init ∈ j_gw := j_mem (j_c2 (i := 33) (by decide +kernel)) rfl
theorem cd_X5_init : Cond.code yX5_init cX5_init 1 none ∈ j_gw := j_mem (j_c2 (i := 34) (by decide +kernel)) rfl
theorem mlX5_3 : Cond.methodLink RX5 3 objectInit ∈ j_gw := j_mem (j_c2 (i := 35) (by decide +kernel)) rfl
theorem flX5_9 : Cond.fieldLink RX5 9 "SeenInOrderOfAge$Shelf" "elements" "[J" ∈ j_gw := j_mem (j_c2 (i := 36) (by decide +kernel)) rfl
theorem flX9_112 : Cond.fieldLinkNest RX9 112 "SeenInOrderOfAge$Shelf" "elements" "[J" "SeenInOrderOfAge" ∈ j_nw := j_memN (j_c2 (i := 37) (by decide +kernel)) rfl
theorem flX5_15 : Cond.fieldLink RX5 15 "SeenInOrderOfAge$Shelf" "held" "I" ∈ j_gw := j_mem (j_c2 (i := 38) (by decide +kernel)) rfl
theorem flX9_105 : Cond.fieldLinkNest RX9 105 "SeenInOrderOfAge$Shelf" "held" "I" "SeenInOrderOfAge" ∈ j_nw := j_memN (j_c2 (i := 39) (by decide +kernel)) rfl
theorem flX9_94 : Cond.fieldLinkNest RX9 94 "SeenInOrderOfAge$Shelf" "size" "I" "SeenInOrderOfAge" ∈ j_nw := j_memN (j_c2 (i := 40) (by decide +kernel)) rfl
theorem flX5_19 : Cond.fieldLink RX5 19 "SeenInOrderOfAge$Shelf" "size" "I" ∈ j_gw := j_mem (j_c2 (i := 41) (by decide +kernel)) rfl
theorem ac_289 : Cond.arrayClass FieldType.long ∈ j_gw := j_mem (j_c2 (i := 49) (by decide +kernel)) rfl
theorem flX9_12 : Cond.fieldLink RX9 12 "SeenInOrderOfAge" "scene" "LSeenInOrderOfAge$Scene;" ∈ j_gw := j_mem (j_c2 (i := 50) (by decide +kernel)) rfl
theorem flX9_16 : Cond.fieldLink RX9 16 "SeenInOrderOfAge" "draft" "LSeenInOrderOfAge$Scene;" ∈ j_gw := j_mem (j_c2 (i := 51) (by decide +kernel)) rfl
theorem flX9_19 : Cond.fieldLink RX9 19 "SeenInOrderOfAge" "kept" "LSeenInOrderOfAge$Scene;" ∈ j_gw := j_mem (j_c2 (i := 52) (by decide +kernel)) rfl
theorem flX9_377 : Cond.fieldLink RX9 377 "SeenInOrderOfAge" "isKept" "Z" ∈ j_gw := j_mem (j_c2 (i := 53) (by decide +kernel)) rfl
theorem flX9_25 : Cond.fieldLink RX9 25 "SeenInOrderOfAge" "look" "LSeenInOrderOfAge$Evening;" ∈ j_gw := j_mem (j_c2 (i := 54) (by decide +kernel)) rfl
theorem flX9_32 : Cond.fieldLink RX9 32 "SeenInOrderOfAge" "crowds" "LSeenInOrderOfAge$Crowds;" ∈ j_gw := j_mem (j_c2 (i := 55) (by decide +kernel)) rfl
theorem flX9_39 : Cond.fieldLink RX9 39 "SeenInOrderOfAge" "chances" "LSeenInOrderOfAge$Chances;" ∈ j_gw := j_mem (j_c2 (i := 56) (by decide +kernel)) rfl
theorem flX9_46 : Cond.fieldLink RX9 46 "SeenInOrderOfAge" "trials" "LSeenInOrderOfAge$Trials;" ∈ j_gw := j_mem (j_c2 (i := 57) (by decide +kernel)) rfl
theorem flX9_53 : Cond.fieldLink RX9 53 "SeenInOrderOfAge" "swaps" "LSeenInOrderOfAge$Swaps;" ∈ j_gw := j_mem (j_c2 (i := 58) (by decide +kernel)) rfl
theorem flX9_60 : Cond.fieldLink RX9 60 "SeenInOrderOfAge" "tape" "LSeenInOrderOfAge$Tape;" ∈ j_gw := j_mem (j_c2 (i := 59) (by decide +kernel)) rfl
theorem flX9_66 : Cond.fieldLink RX9 66 "SeenInOrderOfAge" "shelves" "[LSeenInOrderOfAge$Shelf;" ∈ j_gw := j_mem (j_c2 (i := 60) (by decide +kernel)) rfl
theorem flX9_70 : Cond.fieldLink RX9 70 "SeenInOrderOfAge" "refusals" "[I" ∈ j_gw := j_mem (j_c2 (i := 61) (by decide +kernel)) rfl
theorem mlL_13 : Cond.methodLink RL 13 yX9_row ∈ j_gw := j_mem (j_c2 (i := 87) (by decide +kernel)) rfl
theorem im_X9_row : Cond.instanceMethod yX9_row ∈ j_gw := j_mem (j_c2 (i := 88) (by decide +kernel)) rfl
theorem se_X9_row : Cond.selects RX9 yX9_row yX9_row ∈ j_gw := j_mem (j_c2 (i := 89) (by decide +kernel)) rfl
theorem cd_X9_row : Cond.code yX9_row cX9_row 4 (some .int) ∈ j_gw := j_mem (j_c2 (i := 90) (by decide +kernel)) rfl
theorem mlX9_75 : Cond.methodLink RX9 75 yX9_isShelf ∈ j_gw := j_mem (j_c2 (i := 91) (by decide +kernel)) rfl
theorem sm_X9_isShelf : Cond.static yX9_isShelf ∈ j_gw := j_mem (j_c2 (i := 92) (by decide +kernel)) rfl
theorem cd_X9_isShelf : Cond.code yX9_isShelf cX9_isShelf 1 (some .boolean) ∈ j_gw := j_mem (j_c2 (i := 93) (by decide +kernel)) rfl
theorem mlX9_79 : Cond.methodLink RX9 79 yX9_refuse ∈ j_gw := j_mem (j_c2 (i := 94) (by decide +kernel)) rfl
theorem im_X9_refuse : Cond.instanceMethod yX9_refuse ∈ j_gw := j_mem (j_c2 (i := 96) (by decide +kernel)) rfl
theorem cd_X9_refuse : Cond.code yX9_refuse cX9_refuse 2 (some .int) ∈ j_gw := j_mem (j_c2 (i := 97) (by decide +kernel)) rfl
theorem mlX9_83 : Cond.methodLinkNest RX9 83 yX5_holdRow "SeenInOrderOfAge" ∈ j_nw := j_memN (j_c2 (i := 98) (by decide +kernel)) rfl
theorem im_X5_holdRow : Cond.instanceMethod yX5_holdRow ∈ j_gw := j_mem (j_c2 (i := 100) (by decide +kernel)) rfl
theorem cd_X5_holdRow : Cond.code yX5_holdRow cX5_holdRow 3 none ∈ j_gw := j_mem (j_c2 (i := 101) (by decide +kernel)) rfl
theorem mlX5_22 : Cond.methodLink RX5 22 yJ7_fill_d0a16 ∈ j_gw := j_mem (j_c2 (i := 102) (by decide +kernel)) rfl
theorem sm_J7_fill_d0a16 : Cond.static yJ7_fill_d0a16 ∈ j_gw := j_mem (j_c2 (i := 103) (by decide +kernel)) rfl
theorem cd_J7_fill_d0a16 : Cond.code yJ7_fill_d0a16 cJ7_fill_d0a16 5 none ∈ j_gw := j_mem (j_c2 (i := 104) (by decide +kernel)) rfl
theorem mlL_20 : Cond.methodLink RL 20 yX9_set ∈ j_gw := j_mem (j_c2 (i := 105) (by decide +kernel)) rfl
theorem im_X9_set : Cond.instanceMethod yX9_set ∈ j_gw := j_mem (j_c2 (i := 106) (by decide +kernel)) rfl
theorem se_X9_set : Cond.selects RX9 yX9_set yX9_set ∈ j_gw := j_mem (j_c2 (i := 107) (by decide +kernel)) rfl
theorem cd_X9_set : Cond.code yX9_set cX9_set 6 (some .int) ∈ j_gw := j_mem (j_c2 (i := 108) (by decide +kernel)) rfl
theorem mlX9_87 : Cond.methodLinkNest RX9 87 yX5_isRow "SeenInOrderOfAge" ∈ j_nw := j_memN (j_c2 (i := 109) (by decide +kernel)) rfl
theorem im_X5_isRow : Cond.instanceMethod yX5_isRow ∈ j_gw := j_mem (j_c2 (i := 111) (by decide +kernel)) rfl
theorem cd_X5_isRow : Cond.code yX5_isRow cX5_isRow 1 (some .boolean) ∈ j_gw := j_mem (j_c2 (i := 112) (by decide +kernel)) rfl
theorem mlX9_91 : Cond.methodLinkNest RX9 91 yX5_isNothing "SeenInOrderOfAge" ∈ j_nw := j_memN (j_c2 (i := 113) (by decide +kernel)) rfl
theorem im_X5_isNothing : Cond.instanceMethod yX5_isNothing ∈ j_gw := j_mem (j_c2 (i := 115) (by decide +kernel)) rfl
theorem cd_X5_isNothing : Cond.code yX5_isNothing cX5_isNothing 1 (some .boolean) ∈ j_gw := j_mem (j_c2 (i := 116) (by decide +kernel)) rfl
theorem mlX9_98 : Cond.methodLinkNest RX9 98 yX5_put "SeenInOrderOfAge" ∈ j_nw := j_memN (j_c2 (i := 117) (by decide +kernel)) rfl
theorem im_X5_put : Cond.instanceMethod yX5_put ∈ j_gw := j_mem (j_c2 (i := 119) (by decide +kernel)) rfl
theorem cd_X5_put : Cond.code yX5_put cX5_put 4 none ∈ j_gw := j_mem (j_c2 (i := 120) (by decide +kernel)) rfl
theorem mlX5_32 : Cond.methodLink RX5 32 yX5_lowestBits ∈ j_gw := j_mem (j_c2 (i := 121) (by decide +kernel)) rfl
theorem im_X5_lowestBits : Cond.instanceMethod yX5_lowestBits ∈ j_gw := j_mem (j_c2 (i := 123) (by decide +kernel)) rfl
theorem cd_X5_lowestBits : Cond.code yX5_lowestBits cX5_lowestBits 3 (some .long) ∈ j_gw := j_mem (j_c2 (i := 124) (by decide +kernel)) rfl
theorem mlL_25 : Cond.methodLink RL 25 yX9_copy ∈ j_gw := j_mem (j_c2 (i := 125) (by decide +kernel)) rfl
theorem im_X9_copy : Cond.instanceMethod yX9_copy ∈ j_gw := j_mem (j_c2 (i := 126) (by decide +kernel)) rfl
theorem se_X9_copy : Cond.selects RX9 yX9_copy yX9_copy ∈ j_gw := j_mem (j_c2 (i := 127) (by decide +kernel)) rfl
theorem cd_X9_copy : Cond.code yX9_copy cX9_copy 8 (some .int) ∈ j_gw := j_mem (j_c2 (i := 128) (by decide +kernel)) rfl
theorem mlX9_102 : Cond.methodLinkNest RX9 102 yX5_isLooker "SeenInOrderOfAge" ∈ j_nw := j_memN (j_c2 (i := 129) (by decide +kernel)) rfl
theorem im_X5_isLooker : Cond.instanceMethod yX5_isLooker ∈ j_gw := j_mem (j_c2 (i := 131) (by decide +kernel)) rfl
theorem cd_X5_isLooker : Cond.code yX5_isLooker cX5_isLooker 1 (some .boolean) ∈ j_gw := j_mem (j_c2 (i := 132) (by decide +kernel)) rfl
theorem mlX9_108 : Cond.methodLinkNest RX9 108 yX5_hasRun "SeenInOrderOfAge" ∈ j_nw := j_memN (j_c2 (i := 133) (by decide +kernel)) rfl
theorem im_X5_hasRun : Cond.instanceMethod yX5_hasRun ∈ j_gw := j_mem (j_c2 (i := 135) (by decide +kernel)) rfl
theorem cd_X5_hasRun : Cond.code yX5_hasRun cX5_hasRun 3 (some .boolean) ∈ j_gw := j_mem (j_c2 (i := 136) (by decide +kernel)) rfl
theorem mlX9_116 : Cond.methodLink RX9 116 arraycopyName ∈ j_gw := j_mem (j_c2 (i := 137) (by decide +kernel)) rfl
theorem sm_ac : Cond.static arraycopyName ∈ j_gw := j_mem (j_c2 (i := 138) (by decide +kernel)) rfl
theorem nm_ac : Cond.native arraycopyName ∈ j_gw := j_mem (j_c2 (i := 139) (by decide +kernel)) rfl
theorem mlL_30 : Cond.methodLink RL 30 yX9_element ∈ j_gw := j_mem (j_c2 (i := 140) (by decide +kernel)) rfl
theorem im_X9_element : Cond.instanceMethod yX9_element ∈ j_gw := j_mem (j_c2 (i := 141) (by decide +kernel)) rfl
theorem se_X9_element : Cond.selects RX9 yX9_element yX9_element ∈ j_gw := j_mem (j_c2 (i := 142) (by decide +kernel)) rfl
theorem cd_X9_element : Cond.code yX9_element cX9_element 3 (some .long) ∈ j_gw := j_mem (j_c2 (i := 143) (by decide +kernel)) rfl
theorem mlX9_122 : Cond.methodLinkNest RX9 122 yX5_elementAt "SeenInOrderOfAge" ∈ j_nw := j_memN (j_c2 (i := 144) (by decide +kernel)) rfl
theorem im_X5_elementAt : Cond.instanceMethod yX5_elementAt ∈ j_gw := j_mem (j_c2 (i := 146) (by decide +kernel)) rfl
theorem cd_X5_elementAt : Cond.code yX5_elementAt cX5_elementAt 2 (some .long) ∈ j_gw := j_mem (j_c2 (i := 147) (by decide +kernel)) rfl
theorem mlX5_28 : Cond.methodLink RX5 28 yX5_isRow ∈ j_gw := j_mem (j_c2 (i := 148) (by decide +kernel)) rfl
theorem mlL_35 : Cond.methodLink RL 35 yX9_holds ∈ j_gw := j_mem (j_c2 (i := 149) (by decide +kernel)) rfl
theorem im_X9_holds : Cond.instanceMethod yX9_holds ∈ j_gw := j_mem (j_c2 (i := 150) (by decide +kernel)) rfl
theorem se_X9_holds : Cond.selects RX9 yX9_holds yX9_holds ∈ j_gw := j_mem (j_c2 (i := 151) (by decide +kernel)) rfl
theorem cd_X9_holds : Cond.code yX9_holds cX9_holds 2 (some .int) ∈ j_gw := j_mem (j_c2 (i := 152) (by decide +kernel)) rfl
theorem mlL_40 : Cond.methodLink RL 40 yX9_show ∈ j_gw := j_mem (j_c2 (i := 153) (by decide +kernel)) rfl
theorem im_X9_show : Cond.instanceMethod yX9_show ∈ j_gw := j_mem (j_c2 (i := 154) (by decide +kernel)) rfl
theorem se_X9_show : Cond.selects RX9 yX9_show yX9_show ∈ j_gw := j_mem (j_c2 (i := 155) (by decide +kernel)) rfl
theorem cd_X9_show : Cond.code yX9_show cX9_show 3 (some .int) ∈ j_gw := j_mem (j_c2 (i := 156) (by decide +kernel)) rfl
theorem mlX9_126 : Cond.methodLink RX9 126 yX9_isLooker ∈ j_gw := j_mem (j_c2 (i := 157) (by decide +kernel)) rfl
theorem im_X9_isLooker : Cond.instanceMethod yX9_isLooker ∈ j_gw := j_mem (j_c2 (i := 159) (by decide +kernel)) rfl
theorem cd_X9_isLooker : Cond.code yX9_isLooker cX9_isLooker 2 (some .boolean) ∈ j_gw := j_mem (j_c2 (i := 160) (by decide +kernel)) rfl
theorem mlX9_128 : Cond.methodLinkNest RX9 128 yX5_holdNothing "SeenInOrderOfAge" ∈ j_nw := j_memN (j_c2 (i := 161) (by decide +kernel)) rfl
theorem im_X5_holdNothing : Cond.instanceMethod yX5_holdNothing ∈ j_gw := j_mem (j_c2 (i := 163) (by decide +kernel)) rfl
theorem cd_X5_holdNothing : Cond.code yX5_holdNothing cX5_holdNothing 1 none ∈ j_gw := j_mem (j_c2 (i := 164) (by decide +kernel)) rfl
theorem mlX9_131 : Cond.methodLinkNest RX9 131 yX5_holdLooker "SeenInOrderOfAge" ∈ j_nw := j_memN (j_c2 (i := 165) (by decide +kernel)) rfl
theorem im_X5_holdLooker : Cond.instanceMethod yX5_holdLooker ∈ j_gw := j_mem (j_c2 (i := 167) (by decide +kernel)) rfl
theorem cd_X5_holdLooker : Cond.code yX5_holdLooker cX5_holdLooker 2 none ∈ j_gw := j_mem (j_c2 (i := 168) (by decide +kernel)) rfl
theorem mlL_45 : Cond.methodLink RL 45 yX9_says ∈ j_gw := j_mem (j_c2 (i := 169) (by decide +kernel)) rfl
theorem im_X9_says : Cond.instanceMethod yX9_says ∈ j_gw := j_mem (j_c2 (i := 170) (by decide +kernel)) rfl
theorem se_X9_says : Cond.selects RX9 yX9_says yX9_says ∈ j_gw := j_mem (j_c2 (i := 171) (by decide +kernel)) rfl
theorem cd_X9_says : Cond.code yX9_says cX9_says 6 (some .int) ∈ j_gw := j_mem (j_c2 (i := 172) (by decide +kernel)) rfl
theorem mlX9_144 : Cond.methodLink RX9 144 yX9_isOfKind ∈ j_gw := j_mem (j_c2 (i := 173) (by decide +kernel)) rfl
theorem sm_X9_isOfKind : Cond.static yX9_isOfKind ∈ j_gw := j_mem (j_c2 (i := 174) (by decide +kernel)) rfl
theorem cd_X9_isOfKind : Cond.code yX9_isOfKind cX9_isOfKind 2 (some .boolean) ∈ j_gw := j_mem (j_c2 (i := 175) (by decide +kernel)) rfl
theorem mlX9_153 : Cond.methodLinkNest RX9 153 yX4_takes "SeenInOrderOfAge" ∈ j_nw := j_memN (j_c2 (i := 176) (by decide +kernel)) rfl
theorem im_X4_takes : Cond.instanceMethod yX4_takes ∈ j_gw := j_mem (j_c2 (i := 178) (by decide +kernel)) rfl
theorem cd_X4_takes : Cond.code yX4_takes cX4_takes 5 (some .int) ∈ j_gw := j_mem (j_c2 (i := 179) (by decide +kernel)) rfl
theorem mlX4_74 : Cond.methodLinkNest RX4 74 yX3_wanted "SeenInOrderOfAge" ∈ j_nw := j_memN (j_c2 (i := 180) (by decide +kernel)) rfl
theorem im_X3_wanted : Cond.instanceMethod yX3_wanted ∈ j_gw := j_mem (j_c2 (i := 182) (by decide +kernel)) rfl
theorem cd_X3_wanted : Cond.code yX3_wanted cX3_wanted 1 (some .int) ∈ j_gw := j_mem (j_c2 (i := 183) (by decide +kernel)) rfl
theorem mlX4_78 : Cond.methodLink RX4 78 yX4_placesWithAny ∈ j_gw := j_mem (j_c2 (i := 184) (by decide +kernel)) rfl
theorem im_X4_placesWithAny : Cond.instanceMethod yX4_placesWithAny ∈ j_gw := j_mem (j_c2 (i := 186) (by decide +kernel)) rfl
theorem cd_X4_placesWithAny : Cond.code yX4_placesWithAny cX4_placesWithAny 4 (some .int) ∈ j_gw := j_mem (j_c2 (i := 187) (by decide +kernel)) rfl
theorem mlX4_85 : Cond.methodLink RX4 85 yX4_takesTwice ∈ j_gw := j_mem (j_c2 (i := 188) (by decide +kernel)) rfl
theorem sm_X4_takesTwice : Cond.static yX4_takesTwice ∈ j_gw := j_mem (j_c2 (i := 189) (by decide +kernel)) rfl
theorem cd_X4_takesTwice : Cond.code yX4_takesTwice cX4_takesTwice 4 (some .int) ∈ j_gw := j_mem (j_c2 (i := 190) (by decide +kernel)) rfl
theorem mlX4_101 : Cond.methodLink RX4 101 yJ6_lowestOneBit_0f7a4 ∈ j_gw := j_mem (j_c2 (i := 191) (by decide +kernel)) rfl
theorem sm_J6_lowestOneBit_0f7a4 : Cond.static yJ6_lowestOneBit_0f7a4 ∈ j_gw := j_mem (j_c2 (i := 192) (by decide +kernel)) rfl
theorem cd_J6_lowestOneBit_0f7a4 : Cond.code yJ6_lowestOneBit_0f7a4 cJ6_lowestOneBit_0f7a4 1 (some .int) ∈ j_gw := j_mem (j_c2 (i := 193) (by decide +kernel)) rfl
theorem mlX4_89 : Cond.methodLink RX4 89 yJ6_highestOneBit_0f7a4 ∈ j_gw := j_mem (j_c2 (i := 194) (by decide +kernel)) rfl
theorem sm_J6_highestOneBit_0f7a4 : Cond.static yJ6_highestOneBit_0f7a4 ∈ j_gw := j_mem (j_c2 (i := 195) (by decide +kernel)) rfl
theorem cd_J6_highestOneBit_0f7a4 : Cond.code yJ6_highestOneBit_0f7a4 cJ6_highestOneBit_0f7a4 1 (some .int) ∈ j_gw := j_mem (j_c2 (i := 196) (by decide +kernel)) rfl
theorem kcJ6_127 : Cond.constant RJ6 127 (-2147483648) ∈ j_gw := j_mem (j_c2 (i := 197) (by decide +kernel)) rfl
theorem mlJ6_51 : Cond.methodLink RJ6 51 yJ6_numberOfLeadingZeros_0f7a4 ∈ j_gw := j_mem (j_c2 (i := 198) (by decide +kernel)) rfl
theorem sm_J6_numberOfLeadingZeros_0f7a4 : Cond.static yJ6_numberOfLeadingZeros_0f7a4 ∈ j_gw := j_mem (j_c2 (i := 199) (by decide +kernel)) rfl
theorem cd_J6_numberOfLeadingZeros_0f7a4 : Cond.code yJ6_numberOfLeadingZeros_0f7a4 cJ6_numberOfLeadingZeros_0f7a4 2 (some .int) ∈ j_gw := j_mem (j_c2 (i := 200) (by decide +kernel)) rfl
theorem kcJ6_264 : Cond.constant RJ6 264 (65536) ∈ j_gw := j_mem (j_c2 (i := 201) (by decide +kernel)) rfl
theorem mlX4_94 : Cond.methodLink RX4 94 yX4_isOnly ∈ j_gw := j_mem (j_c2 (i := 202) (by decide +kernel)) rfl
theorem im_X4_isOnly : Cond.instanceMethod yX4_isOnly ∈ j_gw := j_mem (j_c2 (i := 204) (by decide +kernel)) rfl
theorem cd_X4_isOnly : Cond.code yX4_isOnly cX4_isOnly 4 (some .boolean) ∈ j_gw := j_mem (j_c2 (i := 205) (by decide +kernel)) rfl
theorem mlX4_98 : Cond.methodLink RX4 98 yX4_placesWithMost ∈ j_gw := j_mem (j_c2 (i := 206) (by decide +kernel)) rfl
theorem im_X4_placesWithMost : Cond.instanceMethod yX4_placesWithMost ∈ j_gw := j_mem (j_c2 (i := 208) (by decide +kernel)) rfl
theorem cd_X4_placesWithMost : Cond.code yX4_placesWithMost cX4_placesWithMost 6 (some .int) ∈ j_gw := j_mem (j_c2 (i := 209) (by decide +kernel)) rfl
theorem mlX4_104 : Cond.methodLink RX4 104 yJ6_bitCount_0f7a4 ∈ j_gw := j_mem (j_c2 (i := 210) (by decide +kernel)) rfl
theorem sm_J6_bitCount_0f7a4 : Cond.static yJ6_bitCount_0f7a4 ∈ j_gw := j_mem (j_c2 (i := 211) (by decide +kernel)) rfl
theorem cd_J6_bitCount_0f7a4 : Cond.code yJ6_bitCount_0f7a4 cJ6_bitCount_0f7a4 1 (some .int) ∈ j_gw := j_mem (j_c2 (i := 212) (by decide +kernel)) rfl
theorem kcJ6_265 : Cond.constant RJ6 265 (1431655765) ∈ j_gw := j_mem (j_c2 (i := 213) (by decide +kernel)) rfl
theorem kcJ6_266 : Cond.constant RJ6 266 (858993459) ∈ j_gw := j_mem (j_c2 (i := 214) (by decide +kernel)) rfl
theorem kcJ6_267 : Cond.constant RJ6 267 (252645135) ∈ j_gw := j_mem (j_c2 (i := 215) (by decide +kernel)) rfl
theorem mlL_49 : Cond.methodLink RL 49 yX9_place ∈ j_gw := j_mem (j_c2 (i := 216) (by decide +kernel)) rfl
theorem im_X9_place : Cond.instanceMethod yX9_place ∈ j_gw := j_mem (j_c2 (i := 217) (by decide +kernel)) rfl
theorem se_X9_place : Cond.selects RX9 yX9_place yX9_place ∈ j_gw := j_mem (j_c2 (i := 218) (by decide +kernel)) rfl
theorem cd_X9_place : Cond.code yX9_place cX9_place 4 (some .int) ∈ j_gw := j_mem (j_c2 (i := 219) (by decide +kernel)) rfl
theorem mlX9_157 : Cond.methodLink RX9 157 yX9_isPlace ∈ j_gw := j_mem (j_c2 (i := 220) (by decide +kernel)) rfl
theorem sm_X9_isPlace : Cond.static yX9_isPlace ∈ j_gw := j_mem (j_c2 (i := 221) (by decide +kernel)) rfl
theorem cd_X9_isPlace : Cond.code yX9_isPlace cX9_isPlace 1 (some .boolean) ∈ j_gw := j_mem (j_c2 (i := 222) (by decide +kernel)) rfl
theorem mlX9_160 : Cond.methodLink RX9 160 yX9_isSortOrNone ∈ j_gw := j_mem (j_c2 (i := 223) (by decide +kernel)) rfl
theorem sm_X9_isSortOrNone : Cond.static yX9_isSortOrNone ∈ j_gw := j_mem (j_c2 (i := 224) (by decide +kernel)) rfl
theorem cd_X9_isSortOrNone : Cond.code yX9_isSortOrNone cX9_isSortOrNone 1 (some .boolean) ∈ j_gw := j_mem (j_c2 (i := 225) (by decide +kernel)) rfl
theorem mlX9_168 : Cond.methodLink RX9 168 yX9_isSort ∈ j_gw := j_mem (j_c2 (i := 226) (by decide +kernel)) rfl
theorem sm_X9_isSort : Cond.static yX9_isSort ∈ j_gw := j_mem (j_c2 (i := 227) (by decide +kernel)) rfl
theorem cd_X9_isSort : Cond.code yX9_isSort cX9_isSort 1 (some .boolean) ∈ j_gw := j_mem (j_c2 (i := 228) (by decide +kernel)) rfl
theorem mlX9_166 : Cond.methodLinkNest RX9 166 yX4_put "SeenInOrderOfAge" ∈ j_nw := j_memN (j_c2 (i := 229) (by decide +kernel)) rfl
theorem im_X4_put : Cond.instanceMethod yX4_put ∈ j_gw := j_mem (j_c2 (i := 231) (by decide +kernel)) rfl
theorem cd_X4_put : Cond.code yX4_put cX4_put 4 none ∈ j_gw := j_mem (j_c2 (i := 232) (by decide +kernel)) rfl
theorem mlX4_57 : Cond.methodLinkNest RX4 57 yX9_isSort "SeenInOrderOfAge" ∈ j_nw := j_memN (j_c2 (i := 233) (by decide +kernel)) rfl
theorem mlL_53 : Cond.methodLink RL 53 yX9_looker ∈ j_gw := j_mem (j_c2 (i := 234) (by decide +kernel)) rfl
theorem im_X9_looker : Cond.instanceMethod yX9_looker ∈ j_gw := j_mem (j_c2 (i := 235) (by decide +kernel)) rfl
theorem se_X9_looker : Cond.selects RX9 yX9_looker yX9_looker ∈ j_gw := j_mem (j_c2 (i := 236) (by decide +kernel)) rfl
theorem cd_X9_looker : Cond.code yX9_looker cX9_looker 4 (some .int) ∈ j_gw := j_mem (j_c2 (i := 237) (by decide +kernel)) rfl
theorem mlX9_171 : Cond.methodLink RX9 171 yX9_isAge ∈ j_gw := j_mem (j_c2 (i := 238) (by decide +kernel)) rfl
theorem sm_X9_isAge : Cond.static yX9_isAge ∈ j_gw := j_mem (j_c2 (i := 239) (by decide +kernel)) rfl
theorem cd_X9_isAge : Cond.code yX9_isAge cX9_isAge 1 (some .boolean) ∈ j_gw := j_mem (j_c3 (i := 0) (by decide +kernel)) rfl
theorem mlX9_174 : Cond.methodLinkNest RX9 174 yX4_isFull "SeenInOrderOfAge" ∈ j_nw := j_memN (j_c3 (i := 1) (by decide +kernel)) rfl
theorem im_X4_isFull : Cond.instanceMethod yX4_isFull ∈ j_gw := j_mem (j_c3 (i := 3) (by decide +kernel)) rfl
theorem cd_X4_isFull : Cond.code yX4_isFull cX4_isFull 1 (some .boolean) ∈ j_gw := j_mem (j_c3 (i := 4) (by decide +kernel)) rfl
theorem mlX9_177 : Cond.methodLinkNest RX9 177 yX4_add "SeenInOrderOfAge" ∈ j_nw := j_memN (j_c3 (i := 5) (by decide +kernel)) rfl
theorem im_X4_add : Cond.instanceMethod yX4_add ∈ j_gw := j_mem (j_c3 (i := 7) (by decide +kernel)) rfl
theorem cd_X4_add : Cond.code yX4_add cX4_add 5 (some .int) ∈ j_gw := j_mem (j_c3 (i := 8) (by decide +kernel)) rfl
theorem mlX4_61 : Cond.methodLinkNest RX4 61 yX3_begin "SeenInOrderOfAge" ∈ j_nw := j_memN (j_c3 (i := 9) (by decide +kernel)) rfl
theorem im_X3_begin : Cond.instanceMethod yX3_begin ∈ j_gw := j_mem (j_c3 (i := 11) (by decide +kernel)) rfl
theorem cd_X3_begin : Cond.code yX3_begin cX3_begin 4 none ∈ j_gw := j_mem (j_c3 (i := 12) (by decide +kernel)) rfl
theorem mlX3_34 : Cond.methodLink RX3 34 yJ7_fill_53178 ∈ j_gw := j_mem (j_c3 (i := 13) (by decide +kernel)) rfl
theorem mlX4_65 : Cond.methodLink RX4 65 yX4_orderByAge ∈ j_gw := j_mem (j_c3 (i := 14) (by decide +kernel)) rfl
theorem im_X4_orderByAge : Cond.instanceMethod yX4_orderByAge ∈ j_gw := j_mem (j_c3 (i := 16) (by decide +kernel)) rfl
theorem cd_X4_orderByAge : Cond.code yX4_orderByAge cX4_orderByAge 3 none ∈ j_gw := j_mem (j_c3 (i := 17) (by decide +kernel)) rfl
theorem mlL_57 : Cond.methodLink RL 57 yX9_likes ∈ j_gw := j_mem (j_c3 (i := 18) (by decide +kernel)) rfl
theorem im_X9_likes : Cond.instanceMethod yX9_likes ∈ j_gw := j_mem (j_c3 (i := 19) (by decide +kernel)) rfl
theorem se_X9_likes : Cond.selects RX9 yX9_likes yX9_likes ∈ j_gw := j_mem (j_c3 (i := 20) (by decide +kernel)) rfl
theorem cd_X9_likes : Cond.code yX9_likes cX9_likes 6 (some .int) ∈ j_gw := j_mem (j_c3 (i := 21) (by decide +kernel)) rfl
theorem mlX9_184 : Cond.methodLinkNest RX9 184 yX3_like "SeenInOrderOfAge" ∈ j_nw := j_memN (j_c3 (i := 22) (by decide +kernel)) rfl
theorem im_X3_like : Cond.instanceMethod yX3_like ∈ j_gw := j_mem (j_c3 (i := 24) (by decide +kernel)) rfl
theorem cd_X3_like : Cond.code yX3_like cX3_like 3 none ∈ j_gw := j_mem (j_c3 (i := 25) (by decide +kernel)) rfl
theorem mlL_62 : Cond.methodLink RL 62 yX9_tell ∈ j_gw := j_mem (j_c3 (i := 26) (by decide +kernel)) rfl
theorem im_X9_tell : Cond.instanceMethod yX9_tell ∈ j_gw := j_mem (j_c3 (i := 27) (by decide +kernel)) rfl
theorem se_X9_tell : Cond.selects RX9 yX9_tell yX9_tell ∈ j_gw := j_mem (j_c3 (i := 28) (by decide +kernel)) rfl
theorem cd_X9_tell : Cond.code yX9_tell cX9_tell 4 (some .int) ∈ j_gw := j_mem (j_c3 (i := 29) (by decide +kernel)) rfl
theorem mlX9_188 : Cond.methodLink RX9 188 yX9_tellComes ∈ j_gw := j_mem (j_c3 (i := 30) (by decide +kernel)) rfl
theorem im_X9_tellComes : Cond.instanceMethod yX9_tellComes ∈ j_gw := j_mem (j_c3 (i := 32) (by decide +kernel)) rfl
theorem cd_X9_tellComes : Cond.code yX9_tellComes cX9_tellComes 5 (some .int) ∈ j_gw := j_mem (j_c3 (i := 33) (by decide +kernel)) rfl
theorem mlX9_192 : Cond.methodLink RX9 192 yX9_tellAge ∈ j_gw := j_mem (j_c3 (i := 34) (by decide +kernel)) rfl
theorem im_X9_tellAge : Cond.instanceMethod yX9_tellAge ∈ j_gw := j_mem (j_c3 (i := 36) (by decide +kernel)) rfl
theorem cd_X9_tellAge : Cond.code yX9_tellAge cX9_tellAge 4 (some .int) ∈ j_gw := j_mem (j_c3 (i := 37) (by decide +kernel)) rfl
theorem mlX9_201 : Cond.methodLinkNest RX9 201 yX4_putAge "SeenInOrderOfAge" ∈ j_nw := j_memN (j_c3 (i := 38) (by decide +kernel)) rfl
theorem im_X4_putAge : Cond.instanceMethod yX4_putAge ∈ j_gw := j_mem (j_c3 (i := 40) (by decide +kernel)) rfl
theorem cd_X4_putAge : Cond.code yX4_putAge cX4_putAge 3 none ∈ j_gw := j_mem (j_c3 (i := 41) (by decide +kernel)) rfl
theorem mlX9_195 : Cond.methodLink RX9 195 yX9_tellShine ∈ j_gw := j_mem (j_c3 (i := 42) (by decide +kernel)) rfl
theorem im_X9_tellShine : Cond.instanceMethod yX9_tellShine ∈ j_gw := j_mem (j_c3 (i := 44) (by decide +kernel)) rfl
theorem cd_X9_tellShine : Cond.code yX9_tellShine cX9_tellShine 5 (some .int) ∈ j_gw := j_mem (j_c3 (i := 45) (by decide +kernel)) rfl
theorem mlL_66 : Cond.methodLink RL 66 yX9_feed ∈ j_gw := j_mem (j_c3 (i := 46) (by decide +kernel)) rfl
theorem im_X9_feed : Cond.instanceMethod yX9_feed ∈ j_gw := j_mem (j_c3 (i := 47) (by decide +kernel)) rfl
theorem se_X9_feed : Cond.selects RX9 yX9_feed yX9_feed ∈ j_gw := j_mem (j_c3 (i := 48) (by decide +kernel)) rfl
theorem cd_X9_feed : Cond.code yX9_feed cX9_feed 2 (some .int) ∈ j_gw := j_mem (j_c3 (i := 49) (by decide +kernel)) rfl
theorem mlX9_207 : Cond.methodLinkNest RX9 207 yX7_add "SeenInOrderOfAge" ∈ j_nw := j_memN (j_c3 (i := 50) (by decide +kernel)) rfl
theorem im_X7_add : Cond.instanceMethod yX7_add ∈ j_gw := j_mem (j_c3 (i := 52) (by decide +kernel)) rfl
theorem cd_X7_add : Cond.code yX7_add cX7_add 2 (some .boolean) ∈ j_gw := j_mem (j_c3 (i := 53) (by decide +kernel)) rfl
theorem mlL_70 : Cond.methodLink RL 70 yX9_wipe ∈ j_gw := j_mem (j_c3 (i := 54) (by decide +kernel)) rfl
theorem im_X9_wipe : Cond.instanceMethod yX9_wipe ∈ j_gw := j_mem (j_c3 (i := 55) (by decide +kernel)) rfl
theorem se_X9_wipe : Cond.selects RX9 yX9_wipe yX9_wipe ∈ j_gw := j_mem (j_c3 (i := 56) (by decide +kernel)) rfl
theorem cd_X9_wipe : Cond.code yX9_wipe cX9_wipe 2 (some .int) ∈ j_gw := j_mem (j_c3 (i := 57) (by decide +kernel)) rfl
theorem mlX9_210 : Cond.methodLinkNest RX9 210 yX7_clear "SeenInOrderOfAge" ∈ j_nw := j_memN (j_c3 (i := 58) (by decide +kernel)) rfl
theorem im_X7_clear : Cond.instanceMethod yX7_clear ∈ j_gw := j_mem (j_c3 (i := 60) (by decide +kernel)) rfl
theorem cd_X7_clear : Cond.code yX7_clear cX7_clear 1 none ∈ j_gw := j_mem (j_c3 (i := 61) (by decide +kernel)) rfl
theorem mlL_75 : Cond.methodLink RL 75 yX9_window ∈ j_gw := j_mem (j_c3 (i := 62) (by decide +kernel)) rfl
theorem im_X9_window : Cond.instanceMethod yX9_window ∈ j_gw := j_mem (j_c3 (i := 63) (by decide +kernel)) rfl
theorem se_X9_window : Cond.selects RX9 yX9_window yX9_window ∈ j_gw := j_mem (j_c3 (i := 64) (by decide +kernel)) rfl
theorem cd_X9_window : Cond.code yX9_window cX9_window 3 (some .int) ∈ j_gw := j_mem (j_c3 (i := 65) (by decide +kernel)) rfl
theorem mlX9_213 : Cond.methodLinkNest RX9 213 yX4_become "SeenInOrderOfAge" ∈ j_nw := j_memN (j_c3 (i := 66) (by decide +kernel)) rfl
theorem im_X4_become : Cond.instanceMethod yX4_become ∈ j_gw := j_mem (j_c3 (i := 68) (by decide +kernel)) rfl
theorem cd_X4_become : Cond.code yX4_become cX4_become 3 none ∈ j_gw := j_mem (j_c3 (i := 69) (by decide +kernel)) rfl
theorem mlX4_38 : Cond.methodLink RX4 38 arraycopyName ∈ j_gw := j_mem (j_c3 (i := 70) (by decide +kernel)) rfl
theorem mlX4_47 : Cond.methodLinkNest RX4 47 yX3_become "SeenInOrderOfAge" ∈ j_nw := j_memN (j_c3 (i := 71) (by decide +kernel)) rfl
theorem im_X3_become : Cond.instanceMethod yX3_become ∈ j_gw := j_mem (j_c3 (i := 73) (by decide +kernel)) rfl
theorem cd_X3_become : Cond.code yX3_become cX3_become 2 none ∈ j_gw := j_mem (j_c3 (i := 74) (by decide +kernel)) rfl
theorem mlX3_40 : Cond.methodLink RX3 40 arraycopyName ∈ j_gw := j_mem (j_c3 (i := 75) (by decide +kernel)) rfl
theorem mlX9_217 : Cond.methodLinkNest RX9 217 yX7_read "SeenInOrderOfAge" ∈ j_nw := j_memN (j_c3 (i := 76) (by decide +kernel)) rfl
theorem im_X7_read : Cond.instanceMethod yX7_read ∈ j_gw := j_mem (j_c3 (i := 78) (by decide +kernel)) rfl
theorem cd_X7_read : Cond.code yX7_read cX7_read 4 (some .int) ∈ j_gw := j_mem (j_c3 (i := 79) (by decide +kernel)) rfl
theorem mlX7_25 : Cond.methodLink RX7 25 yX7_readStatement ∈ j_gw := j_mem (j_c3 (i := 80) (by decide +kernel)) rfl
theorem im_X7_readStatement : Cond.instanceMethod yX7_readStatement ∈ j_gw := j_mem (j_c3 (i := 82) (by decide +kernel)) rfl
theorem cd_X7_readStatement : Cond.code yX7_readStatement cX7_readStatement 3 none ∈ j_gw := j_mem (j_c3 (i := 83) (by decide +kernel)) rfl
theorem mlX7_33 : Cond.methodLink RX7 33 yX7_skipBlanks ∈ j_gw := j_mem (j_c3 (i := 84) (by decide +kernel)) rfl
theorem im_X7_skipBlanks : Cond.instanceMethod yX7_skipBlanks ∈ j_gw := j_mem (j_c3 (i := 86) (by decide +kernel)) rfl
theorem cd_X7_skipBlanks : Cond.code yX7_skipBlanks cX7_skipBlanks 1 none ∈ j_gw := j_mem (j_c3 (i := 87) (by decide +kernel)) rfl
theorem mlX7_36 : Cond.methodLink RX7 36 yX7_readWord ∈ j_gw := j_mem (j_c3 (i := 88) (by decide +kernel)) rfl
theorem im_X7_readWord : Cond.instanceMethod yX7_readWord ∈ j_gw := j_mem (j_c3 (i := 90) (by decide +kernel)) rfl
theorem cd_X7_readWord : Cond.code yX7_readWord cX7_readWord 3 (some .int) ∈ j_gw := j_mem (j_c3 (i := 91) (by decide +kernel)) rfl
theorem mlX7_99 : Cond.methodLink RX7 99 yX7_spellingOf ∈ j_gw := j_mem (j_c3 (i := 92) (by decide +kernel)) rfl
theorem sm_X7_spellingOf : Cond.static yX7_spellingOf ∈ j_gw := j_mem (j_c3 (i := 93) (by decide +kernel)) rfl
theorem cd_X7_spellingOf : Cond.code yX7_spellingOf cX7_spellingOf 1 (some (.object "java/lang/String")) ∈ j_gw := j_mem (j_c3 (i := 94) (by decide +kernel)) rfl
theorem srX7_116 : Cond.stringRef RX7 116 "place" ∈ lw_tbl := j_c3 (i := 95) (by decide +kernel)
theorem srX7_118 : Cond.stringRef RX7 118 "clear" ∈ lw_tbl := j_c3 (i := 96) (by decide +kernel)
theorem srX7_120 : Cond.stringRef RX7 120 "looker" ∈ lw_tbl := j_c3 (i := 97) (by decide +kernel)
theorem srX7_122 : Cond.stringRef RX7 122 "likes" ∈ lw_tbl := j_c3 (i := 98) (by decide +kernel)
theorem srX7_124 : Cond.stringRef RX7 124 "comes" ∈ lw_tbl := j_c3 (i := 99) (by decide +kernel)
theorem srX7_125 : Cond.stringRef RX7 125 "shine" ∈ lw_tbl := j_c3 (i := 100) (by decide +kernel)
theorem mlX7_103 : Cond.methodLink RX7 103 yX7_isSpelled ∈ j_gw := j_mem (j_c3 (i := 101) (by decide +kernel)) rfl
theorem im_X7_isSpelled : Cond.instanceMethod yX7_isSpelled ∈ j_gw := j_mem (j_c3 (i := 103) (by decide +kernel)) rfl
theorem cd_X7_isSpelled : Cond.code yX7_isSpelled cX7_isSpelled 4 (some .boolean) ∈ j_gw := j_mem (j_c3 (i := 104) (by decide +kernel)) rfl
theorem mlX7_107 : Cond.methodLink RX7 107 yJ0_length_8abf5 ∈ j_gw := j_mem (j_c3 (i := 105) (by decide +kernel)) rfl
theorem im_J0_length_8abf5 : Cond.instanceMethod yJ0_length_8abf5 ∈ j_gw := j_mem (j_c3 (i := 106) (by decide +kernel)) rfl
theorem se_J0_length_8abf5 : Cond.selects RJ0 yJ0_length_8abf5 yJ0_length_8abf5 ∈ j_gw := j_mem (j_c3 (i := 107) (by decide +kernel)) rfl
theorem cd_J0_length_8abf5 : Cond.code yJ0_length_8abf5 cJ0_length_8abf5 1 (some .int) ∈ j_gw := j_mem (j_c3 (i := 108) (by decide +kernel)) rfl
theorem mlJ0_335 : Cond.methodLink RJ0 335 yJ0_coder_7d493 ∈ j_gw := j_mem (j_c3 (i := 109) (by decide +kernel)) rfl
theorem im_J0_coder_7d493 : Cond.instanceMethod yJ0_coder_7d493 ∈ j_gw := j_mem (j_c3 (i := 110) (by decide +kernel)) rfl
theorem se_J0_coder_7d493 : Cond.selects RJ0 yJ0_coder_7d493 yJ0_coder_7d493 ∈ j_gw := j_mem (j_c3 (i := 111) (by decide +kernel)) rfl
theorem cd_J0_coder_7d493 : Cond.code yJ0_coder_7d493 cJ0_coder_7d493 1 (some .byte) ∈ j_gw := j_mem (j_c3 (i := 112) (by decide +kernel)) rfl
theorem flJ0_38 : Cond.fieldLink RJ0 38 "java/lang/String" "COMPACT_STRINGS" "Z" ∈ j_gw := j_mem (j_c3 (i := 113) (by decide +kernel)) rfl
theorem mlX7_112 : Cond.methodLink RX7 112 yJ0_charAt_5068e ∈ j_gw := j_mem (j_c3 (i := 115) (by decide +kernel)) rfl
theorem im_J0_charAt_5068e : Cond.instanceMethod yJ0_charAt_5068e ∈ j_gw := j_mem (j_c3 (i := 116) (by decide +kernel)) rfl
theorem se_J0_charAt_5068e : Cond.selects RJ0 yJ0_charAt_5068e yJ0_charAt_5068e ∈ j_gw := j_mem (j_c3 (i := 117) (by decide +kernel)) rfl
theorem cd_J0_charAt_5068e : Cond.code yJ0_charAt_5068e cJ0_charAt_5068e 2 (some .char) ∈ j_gw := j_mem (j_c3 (i := 118) (by decide +kernel)) rfl
theorem mlJ0_492 : Cond.methodLink RJ0 492 yJ0_isLatin1_aae02 ∈ j_gw := j_mem (j_c3 (i := 119) (by decide +kernel)) rfl
theorem im_J0_isLatin1_aae02 : Cond.instanceMethod yJ0_isLatin1_aae02 ∈ j_gw := j_mem (j_c3 (i := 120) (by decide +kernel)) rfl
theorem se_J0_isLatin1_aae02 : Cond.selects RJ0 yJ0_isLatin1_aae02 yJ0_isLatin1_aae02 ∈ j_gw := j_mem (j_c3 (i := 121) (by decide +kernel)) rfl
theorem cd_J0_isLatin1_aae02 : Cond.code yJ0_isLatin1_aae02 cJ0_isLatin1_aae02 1 (some .boolean) ∈ j_gw := j_mem (j_c3 (i := 122) (by decide +kernel)) rfl
theorem mlJ0_495 : Cond.methodLink RJ0 495 yJ1_charAt_3b067 ∈ j_gw := j_mem (j_c3 (i := 123) (by decide +kernel)) rfl
theorem sm_J1_charAt_3b067 : Cond.static yJ1_charAt_3b067 ∈ j_gw := j_mem (j_c3 (i := 124) (by decide +kernel)) rfl
theorem cd_J1_charAt_3b067 : Cond.code yJ1_charAt_3b067 cJ1_charAt_3b067 2 (some .char) ∈ j_gw := j_mem (j_c3 (i := 125) (by decide +kernel)) rfl
theorem mlJ1_9 : Cond.methodLink RJ1 9 yJ0_checkIndex_df160 ∈ j_gw := j_mem (j_c3 (i := 126) (by decide +kernel)) rfl
theorem sm_J0_checkIndex_df160 : Cond.static yJ0_checkIndex_df160 ∈ j_gw := j_mem (j_c3 (i := 127) (by decide +kernel)) rfl
theorem cd_J0_checkIndex_df160 : Cond.code yJ0_checkIndex_df160 cJ0_checkIndex_df160 2 none ∈ j_gw := j_mem (j_c3 (i := 128) (by decide +kernel)) rfl
theorem flJ0_1053 : Cond.fieldLink RJ0 1053 "jdk/internal/util/Preconditions" "SIOOBE_FORMATTER" "Ljava/util/function/BiFunction;" ∈ j_gw := j_mem (j_c3 (i := 129) (by decide +kernel)) rfl
theorem mlJ0_1059 : Cond.methodLink RJ0 1059 yJ3_checkIndex_8e157 ∈ j_gw := j_mem (j_c3 (i := 131) (by decide +kernel)) rfl
theorem sm_J3_checkIndex_8e157 : Cond.static yJ3_checkIndex_8e157 ∈ j_gw := j_mem (j_c3 (i := 132) (by decide +kernel)) rfl
theorem cd_J3_checkIndex_8e157 : Cond.code yJ3_checkIndex_8e157 cJ3_checkIndex_8e157 3 (some .int) ∈ j_gw := j_mem (j_c3 (i := 133) (by decide +kernel)) rfl
theorem mlJ0_498 : Cond.methodLink RJ0 498 yJ2_charAt_3b067 ∈ j_gw := j_mem (j_c3 (i := 134) (by decide +kernel)) rfl
theorem sm_J2_charAt_3b067 : Cond.static yJ2_charAt_3b067 ∈ j_gw := j_mem (j_c3 (i := 135) (by decide +kernel)) rfl
theorem cd_J2_charAt_3b067 : Cond.code yJ2_charAt_3b067 cJ2_charAt_3b067 2 (some .char) ∈ j_gw := j_mem (j_c3 (i := 136) (by decide +kernel)) rfl
theorem mlJ2_67 : Cond.methodLink RJ2 67 yJ2_checkIndex_2214a ∈ j_gw := j_mem (j_c3 (i := 137) (by decide +kernel)) rfl
theorem sm_J2_checkIndex_2214a : Cond.static yJ2_checkIndex_2214a ∈ j_gw := j_mem (j_c3 (i := 138) (by decide +kernel)) rfl
theorem cd_J2_checkIndex_2214a : Cond.code yJ2_checkIndex_2214a cJ2_checkIndex_2214a 2 none ∈ j_gw := j_mem (j_c3 (i := 139) (by decide +kernel)) rfl
theorem mlJ2_48 : Cond.methodLink RJ2 48 yJ2_length_9d52b ∈ j_gw := j_mem (j_c3 (i := 140) (by decide +kernel)) rfl
theorem sm_J2_length_9d52b : Cond.static yJ2_length_9d52b ∈ j_gw := j_mem (j_c3 (i := 141) (by decide +kernel)) rfl
theorem cd_J2_length_9d52b : Cond.code yJ2_length_9d52b cJ2_length_9d52b 1 (some .int) ∈ j_gw := j_mem (j_c3 (i := 142) (by decide +kernel)) rfl
theorem mlJ2_414 : Cond.methodLink RJ2 414 yJ0_checkIndex_df160 ∈ j_gw := j_mem (j_c3 (i := 143) (by decide +kernel)) rfl
theorem mlJ2_71 : Cond.methodLink RJ2 71 yJ2_getChar_3b067 ∈ j_gw := j_mem (j_c3 (i := 144) (by decide +kernel)) rfl
theorem sm_J2_getChar_3b067 : Cond.static yJ2_getChar_3b067 ∈ j_gw := j_mem (j_c3 (i := 145) (by decide +kernel)) rfl
theorem cd_J2_getChar_3b067 : Cond.code yJ2_getChar_3b067 cJ2_getChar_3b067 2 (some .char) ∈ j_gw := j_mem (j_c3 (i := 146) (by decide +kernel)) rfl
theorem flJ2_44 : Cond.fieldLink RJ2 44 "java/lang/StringUTF16" "$assertionsDisabled" "Z" ∈ j_gw := j_mem (j_c3 (i := 147) (by decide +kernel)) rfl
theorem flJ2_59 : Cond.fieldLink RJ2 59 "java/lang/StringUTF16" "HI_BYTE_SHIFT" "I" ∈ j_gw := j_mem (j_c3 (i := 149) (by decide +kernel)) rfl
theorem flJ2_63 : Cond.fieldLink RJ2 63 "java/lang/StringUTF16" "LO_BYTE_SHIFT" "I" ∈ j_gw := j_mem (j_c3 (i := 151) (by decide +kernel)) rfl
theorem mlX7_40 : Cond.methodLink RX7 40 yX7_readPlace ∈ j_gw := j_mem (j_c3 (i := 153) (by decide +kernel)) rfl
theorem im_X7_readPlace : Cond.instanceMethod yX7_readPlace ∈ j_gw := j_mem (j_c3 (i := 155) (by decide +kernel)) rfl
theorem cd_X7_readPlace : Cond.code yX7_readPlace cX7_readPlace 4 none ∈ j_gw := j_mem (j_c3 (i := 156) (by decide +kernel)) rfl
theorem mlX7_59 : Cond.methodLink RX7 59 yX7_readNumber ∈ j_gw := j_mem (j_c3 (i := 157) (by decide +kernel)) rfl
theorem im_X7_readNumber : Cond.instanceMethod yX7_readNumber ∈ j_gw := j_mem (j_c3 (i := 159) (by decide +kernel)) rfl
theorem cd_X7_readNumber : Cond.code yX7_readNumber cX7_readNumber 5 (some .int) ∈ j_gw := j_mem (j_c3 (i := 160) (by decide +kernel)) rfl
theorem mlX7_95 : Cond.methodLink RX7 95 yX7_isDigit ∈ j_gw := j_mem (j_c3 (i := 161) (by decide +kernel)) rfl
theorem sm_X7_isDigit : Cond.static yX7_isDigit ∈ j_gw := j_mem (j_c3 (i := 162) (by decide +kernel)) rfl
theorem cd_X7_isDigit : Cond.code yX7_isDigit cX7_isDigit 1 (some .boolean) ∈ j_gw := j_mem (j_c3 (i := 163) (by decide +kernel)) rfl
theorem mlX7_63 : Cond.methodLinkNest RX7 63 yX4_put "SeenInOrderOfAge" ∈ j_nw := j_memN (j_c3 (i := 164) (by decide +kernel)) rfl
theorem mlX7_43 : Cond.methodLink RX7 43 yX7_readClear ∈ j_gw := j_mem (j_c3 (i := 165) (by decide +kernel)) rfl
theorem im_X7_readClear : Cond.instanceMethod yX7_readClear ∈ j_gw := j_mem (j_c3 (i := 167) (by decide +kernel)) rfl
theorem cd_X7_readClear : Cond.code yX7_readClear cX7_readClear 3 none ∈ j_gw := j_mem (j_c3 (i := 168) (by decide +kernel)) rfl
theorem mlX7_46 : Cond.methodLink RX7 46 yX7_readLooker ∈ j_gw := j_mem (j_c3 (i := 169) (by decide +kernel)) rfl
theorem im_X7_readLooker : Cond.instanceMethod yX7_readLooker ∈ j_gw := j_mem (j_c3 (i := 171) (by decide +kernel)) rfl
theorem cd_X7_readLooker : Cond.code yX7_readLooker cX7_readLooker 6 none ∈ j_gw := j_mem (j_c3 (i := 172) (by decide +kernel)) rfl
theorem mlX7_69 : Cond.methodLinkNest RX7 69 yX4_isFull "SeenInOrderOfAge" ∈ j_nw := j_memN (j_c3 (i := 173) (by decide +kernel)) rfl
theorem mlX7_72 : Cond.methodLinkNest RX7 72 yX4_add "SeenInOrderOfAge" ∈ j_nw := j_memN (j_c3 (i := 174) (by decide +kernel)) rfl
theorem mlX7_50 : Cond.methodLink RX7 50 yX7_readLikes ∈ j_gw := j_mem (j_c3 (i := 175) (by decide +kernel)) rfl
theorem im_X7_readLikes : Cond.instanceMethod yX7_readLikes ∈ j_gw := j_mem (j_c3 (i := 177) (by decide +kernel)) rfl
theorem cd_X7_readLikes : Cond.code yX7_readLikes cX7_readLikes 4 none ∈ j_gw := j_mem (j_c3 (i := 178) (by decide +kernel)) rfl
theorem mlX7_83 : Cond.methodLinkNest RX7 83 yX3_like "SeenInOrderOfAge" ∈ j_nw := j_memN (j_c3 (i := 179) (by decide +kernel)) rfl
theorem mlX7_53 : Cond.methodLink RX7 53 yX7_readComes ∈ j_gw := j_mem (j_c3 (i := 180) (by decide +kernel)) rfl
theorem im_X7_readComes : Cond.instanceMethod yX7_readComes ∈ j_gw := j_mem (j_c3 (i := 182) (by decide +kernel)) rfl
theorem cd_X7_readComes : Cond.code yX7_readComes cX7_readComes 4 none ∈ j_gw := j_mem (j_c3 (i := 183) (by decide +kernel)) rfl
theorem mlX7_56 : Cond.methodLink RX7 56 yX7_readShine ∈ j_gw := j_mem (j_c3 (i := 184) (by decide +kernel)) rfl
theorem im_X7_readShine : Cond.instanceMethod yX7_readShine ∈ j_gw := j_mem (j_c3 (i := 186) (by decide +kernel)) rfl
theorem cd_X7_readShine : Cond.code yX7_readShine cX7_readShine 4 none ∈ j_gw := j_mem (j_c3 (i := 187) (by decide +kernel)) rfl
theorem mlX7_29 : Cond.methodLink RX7 29 yX7_readSemicolon ∈ j_gw := j_mem (j_c3 (i := 188) (by decide +kernel)) rfl
theorem im_X7_readSemicolon : Cond.instanceMethod yX7_readSemicolon ∈ j_gw := j_mem (j_c3 (i := 190) (by decide +kernel)) rfl
theorem cd_X7_readSemicolon : Cond.code yX7_readSemicolon cX7_readSemicolon 1 (some .boolean) ∈ j_gw := j_mem (j_c3 (i := 191) (by decide +kernel)) rfl
theorem ac_672 : Cond.arrayClass FieldType.byte ∈ j_gw := j_mem (j_c3 (i := 192) (by decide +kernel)) rfl
theorem mlL_79 : Cond.methodLink RL 79 yX9_sortAt ∈ j_gw := j_mem (j_c3 (i := 193) (by decide +kernel)) rfl
theorem im_X9_sortAt : Cond.instanceMethod yX9_sortAt ∈ j_gw := j_mem (j_c3 (i := 194) (by decide +kernel)) rfl
theorem se_X9_sortAt : Cond.selects RX9 yX9_sortAt yX9_sortAt ∈ j_gw := j_mem (j_c3 (i := 195) (by decide +kernel)) rfl
theorem cd_X9_sortAt : Cond.code yX9_sortAt cX9_sortAt 2 (some .int) ∈ j_gw := j_mem (j_c3 (i := 196) (by decide +kernel)) rfl
theorem mlL_83 : Cond.methodLink RL 83 yX9_lookerOf ∈ j_gw := j_mem (j_c3 (i := 197) (by decide +kernel)) rfl
theorem im_X9_lookerOf : Cond.instanceMethod yX9_lookerOf ∈ j_gw := j_mem (j_c3 (i := 198) (by decide +kernel)) rfl
theorem se_X9_lookerOf : Cond.selects RX9 yX9_lookerOf yX9_lookerOf ∈ j_gw := j_mem (j_c3 (i := 199) (by decide +kernel)) rfl
theorem cd_X9_lookerOf : Cond.code yX9_lookerOf cX9_lookerOf 4 (some .int) ∈ j_gw := j_mem (j_c3 (i := 200) (by decide +kernel)) rfl
theorem mlX9_227 : Cond.methodLink RX9 227 yX9_isHas ∈ j_gw := j_mem (j_c3 (i := 201) (by decide +kernel)) rfl
theorem sm_X9_isHas : Cond.static yX9_isHas ∈ j_gw := j_mem (j_c3 (i := 202) (by decide +kernel)) rfl
theorem cd_X9_isHas : Cond.code yX9_isHas cX9_isHas 1 (some .boolean) ∈ j_gw := j_mem (j_c3 (i := 203) (by decide +kernel)) rfl
theorem mlL_140 : Cond.methodLink RL 140 yX9_sorts ∈ j_gw := j_mem (j_c3 (i := 204) (by decide +kernel)) rfl
theorem im_X9_sorts : Cond.instanceMethod yX9_sorts ∈ j_gw := j_mem (j_c3 (i := 205) (by decide +kernel)) rfl
theorem se_X9_sorts : Cond.selects RX9 yX9_sorts yX9_sorts ∈ j_gw := j_mem (j_c3 (i := 206) (by decide +kernel)) rfl
theorem cd_X9_sorts : Cond.code yX9_sorts cX9_sorts 3 (some .int) ∈ j_gw := j_mem (j_c3 (i := 207) (by decide +kernel)) rfl
theorem mlX9_236 : Cond.methodLink RX9 236 yJ6_bitCount_0f7a4 ∈ j_gw := j_mem (j_c3 (i := 208) (by decide +kernel)) rfl
theorem mlX9_241 : Cond.methodLinkNest RX9 241 yX4_countWhoLike "SeenInOrderOfAge" ∈ j_nw := j_memN (j_c3 (i := 209) (by decide +kernel)) rfl
theorem im_X4_countWhoLike : Cond.instanceMethod yX4_countWhoLike ∈ j_gw := j_mem (j_c3 (i := 211) (by decide +kernel)) rfl
theorem cd_X4_countWhoLike : Cond.code yX4_countWhoLike cX4_countWhoLike 4 (some .int) ∈ j_gw := j_mem (j_c3 (i := 212) (by decide +kernel)) rfl
theorem mlX9_244 : Cond.methodLinkNest RX9 244 yX4_countWithA "SeenInOrderOfAge" ∈ j_nw := j_memN (j_c3 (i := 213) (by decide +kernel)) rfl
theorem im_X4_countWithA : Cond.instanceMethod yX4_countWithA ∈ j_gw := j_mem (j_c3 (i := 215) (by decide +kernel)) rfl
theorem cd_X4_countWithA : Cond.code yX4_countWithA cX4_countWithA 4 (some .int) ∈ j_gw := j_mem (j_c3 (i := 216) (by decide +kernel)) rfl
theorem mlL_144 : Cond.methodLink RL 144 yX9_rare ∈ j_gw := j_mem (j_c3 (i := 217) (by decide +kernel)) rfl
theorem im_X9_rare : Cond.instanceMethod yX9_rare ∈ j_gw := j_mem (j_c3 (i := 218) (by decide +kernel)) rfl
theorem se_X9_rare : Cond.selects RX9 yX9_rare yX9_rare ∈ j_gw := j_mem (j_c3 (i := 219) (by decide +kernel)) rfl
theorem cd_X9_rare : Cond.code yX9_rare cX9_rare 3 (some .int) ∈ j_gw := j_mem (j_c3 (i := 220) (by decide +kernel)) rfl
theorem mlX9_247 : Cond.methodLinkNest RX9 247 yX4_rarestSort "SeenInOrderOfAge" ∈ j_nw := j_memN (j_c3 (i := 221) (by decide +kernel)) rfl
theorem im_X4_rarestSort : Cond.instanceMethod yX4_rarestSort ∈ j_gw := j_mem (j_c3 (i := 223) (by decide +kernel)) rfl
theorem cd_X4_rarestSort : Cond.code yX4_rarestSort cX4_rarestSort 5 (some .int) ∈ j_gw := j_mem (j_c3 (i := 224) (by decide +kernel)) rfl
theorem mlX9_251 : Cond.methodLinkNest RX9 251 yX4_commonestSort "SeenInOrderOfAge" ∈ j_nw := j_memN (j_c3 (i := 225) (by decide +kernel)) rfl
theorem im_X4_commonestSort : Cond.instanceMethod yX4_commonestSort ∈ j_gw := j_mem (j_c3 (i := 227) (by decide +kernel)) rfl
theorem cd_X4_commonestSort : Cond.code yX4_commonestSort cX4_commonestSort 5 (some .int) ∈ j_gw := j_mem (j_c3 (i := 228) (by decide +kernel)) rfl
theorem mlL_148 : Cond.methodLink RL 148 yX9_first ∈ j_gw := j_mem (j_c3 (i := 229) (by decide +kernel)) rfl
theorem im_X9_first : Cond.instanceMethod yX9_first ∈ j_gw := j_mem (j_c3 (i := 230) (by decide +kernel)) rfl
theorem se_X9_first : Cond.selects RX9 yX9_first yX9_first ∈ j_gw := j_mem (j_c3 (i := 231) (by decide +kernel)) rfl
theorem cd_X9_first : Cond.code yX9_first cX9_first 3 (some .int) ∈ j_gw := j_mem (j_c3 (i := 232) (by decide +kernel)) rfl
theorem mlX9_254 : Cond.methodLinkNest RX9 254 yX4_firstWithMost "SeenInOrderOfAge" ∈ j_nw := j_memN (j_c3 (i := 233) (by decide +kernel)) rfl
theorem im_X4_firstWithMost : Cond.instanceMethod yX4_firstWithMost ∈ j_gw := j_mem (j_c3 (i := 235) (by decide +kernel)) rfl
theorem cd_X4_firstWithMost : Cond.code yX4_firstWithMost cX4_firstWithMost 6 (some .int) ∈ j_gw := j_mem (j_c3 (i := 236) (by decide +kernel)) rfl
theorem mlX4_113 : Cond.methodLink RX4 113 yX4_measure ∈ j_gw := j_mem (j_c3 (i := 237) (by decide +kernel)) rfl
theorem sm_X4_measure : Cond.static yX4_measure ∈ j_gw := j_mem (j_c3 (i := 238) (by decide +kernel)) rfl
theorem cd_X4_measure : Cond.code yX4_measure cX4_measure 2 (some .int) ∈ j_gw := j_mem (j_c3 (i := 239) (by decide +kernel)) rfl
theorem mlX4_110 : Cond.methodLinkNest RX4 110 yX3_countHad "SeenInOrderOfAge" ∈ j_nw := j_memN (j_c4 (i := 0) (by decide +kernel)) rfl
theorem im_X3_countHad : Cond.instanceMethod yX3_countHad ∈ j_gw := j_mem (j_c4 (i := 2) (by decide +kernel)) rfl
theorem cd_X3_countHad : Cond.code yX3_countHad cX3_countHad 3 (some .int) ∈ j_gw := j_mem (j_c4 (i := 3) (by decide +kernel)) rfl
theorem mlL_152 : Cond.methodLink RL 152 yX9_places ∈ j_gw := j_mem (j_c4 (i := 4) (by decide +kernel)) rfl
theorem im_X9_places : Cond.instanceMethod yX9_places ∈ j_gw := j_mem (j_c4 (i := 5) (by decide +kernel)) rfl
theorem se_X9_places : Cond.selects RX9 yX9_places yX9_places ∈ j_gw := j_mem (j_c4 (i := 6) (by decide +kernel)) rfl
theorem cd_X9_places : Cond.code yX9_places cX9_places 1 (some .int) ∈ j_gw := j_mem (j_c4 (i := 7) (by decide +kernel)) rfl
theorem mlL_87 : Cond.methodLink RL 87 yX9_left ∈ j_gw := j_mem (j_c4 (i := 8) (by decide +kernel)) rfl
theorem im_X9_left : Cond.instanceMethod yX9_left ∈ j_gw := j_mem (j_c4 (i := 9) (by decide +kernel)) rfl
theorem se_X9_left : Cond.selects RX9 yX9_left yX9_left ∈ j_gw := j_mem (j_c4 (i := 10) (by decide +kernel)) rfl
theorem cd_X9_left : Cond.code yX9_left cX9_left 2 (some .int) ∈ j_gw := j_mem (j_c4 (i := 11) (by decide +kernel)) rfl
theorem mlX9_257 : Cond.methodLink RX9 257 yX9_isSet ∈ j_gw := j_mem (j_c4 (i := 12) (by decide +kernel)) rfl
theorem im_X9_isSet : Cond.instanceMethod yX9_isSet ∈ j_gw := j_mem (j_c4 (i := 14) (by decide +kernel)) rfl
theorem cd_X9_isSet : Cond.code yX9_isSet cX9_isSet 2 (some .boolean) ∈ j_gw := j_mem (j_c4 (i := 15) (by decide +kernel)) rfl
theorem mlX9_279 : Cond.methodLinkNest RX9 279 yX4_everybody "SeenInOrderOfAge" ∈ j_nw := j_memN (j_c4 (i := 16) (by decide +kernel)) rfl
theorem im_X4_everybody : Cond.instanceMethod yX4_everybody ∈ j_gw := j_mem (j_c4 (i := 18) (by decide +kernel)) rfl
theorem cd_X4_everybody : Cond.code yX4_everybody cX4_everybody 1 (some .int) ∈ j_gw := j_mem (j_c4 (i := 19) (by decide +kernel)) rfl
theorem mlX9_260 : Cond.methodLinkNest RX9 260 yX2_run "SeenInOrderOfAge" ∈ j_nw := j_memN (j_c4 (i := 20) (by decide +kernel)) rfl
theorem im_X2_run : Cond.instanceMethod yX2_run ∈ j_gw := j_mem (j_c4 (i := 22) (by decide +kernel)) rfl
theorem cd_X2_run : Cond.code yX2_run cX2_run 9 none ∈ j_gw := j_mem (j_c4 (i := 23) (by decide +kernel)) rfl
theorem mlX2_37 : Cond.methodLinkNest RX2 37 yX4_takes "SeenInOrderOfAge" ∈ j_nw := j_memN (j_c4 (i := 24) (by decide +kernel)) rfl
theorem mlL_91 : Cond.methodLink RL 91 yX9_taken ∈ j_gw := j_mem (j_c4 (i := 25) (by decide +kernel)) rfl
theorem im_X9_taken : Cond.instanceMethod yX9_taken ∈ j_gw := j_mem (j_c4 (i := 26) (by decide +kernel)) rfl
theorem se_X9_taken : Cond.selects RX9 yX9_taken yX9_taken ∈ j_gw := j_mem (j_c4 (i := 27) (by decide +kernel)) rfl
theorem cd_X9_taken : Cond.code yX9_taken cX9_taken 3 (some .int) ∈ j_gw := j_mem (j_c4 (i := 28) (by decide +kernel)) rfl
theorem mlL_95 : Cond.methodLink RL 95 yX9_glad ∈ j_gw := j_mem (j_c4 (i := 29) (by decide +kernel)) rfl
theorem im_X9_glad : Cond.instanceMethod yX9_glad ∈ j_gw := j_mem (j_c4 (i := 30) (by decide +kernel)) rfl
theorem se_X9_glad : Cond.selects RX9 yX9_glad yX9_glad ∈ j_gw := j_mem (j_c4 (i := 31) (by decide +kernel)) rfl
theorem cd_X9_glad : Cond.code yX9_glad cX9_glad 3 (some .int) ∈ j_gw := j_mem (j_c4 (i := 32) (by decide +kernel)) rfl
theorem mlL_99 : Cond.methodLink RL 99 yX9_order ∈ j_gw := j_mem (j_c4 (i := 33) (by decide +kernel)) rfl
theorem im_X9_order : Cond.instanceMethod yX9_order ∈ j_gw := j_mem (j_c4 (i := 34) (by decide +kernel)) rfl
theorem se_X9_order : Cond.selects RX9 yX9_order yX9_order ∈ j_gw := j_mem (j_c4 (i := 35) (by decide +kernel)) rfl
theorem cd_X9_order : Cond.code yX9_order cX9_order 4 (some .int) ∈ j_gw := j_mem (j_c4 (i := 36) (by decide +kernel)) rfl
theorem mlX9_276 : Cond.methodLinkNest RX9 276 yX4_inOrder "SeenInOrderOfAge" ∈ j_nw := j_memN (j_c4 (i := 37) (by decide +kernel)) rfl
theorem im_X4_inOrder : Cond.instanceMethod yX4_inOrder ∈ j_gw := j_mem (j_c4 (i := 39) (by decide +kernel)) rfl
theorem cd_X4_inOrder : Cond.code yX4_inOrder cX4_inOrder 6 (some .int) ∈ j_gw := j_mem (j_c4 (i := 40) (by decide +kernel)) rfl
theorem mlL_156 : Cond.methodLink RL 156 yX9_gladOnes ∈ j_gw := j_mem (j_c4 (i := 41) (by decide +kernel)) rfl
theorem im_X9_gladOnes : Cond.instanceMethod yX9_gladOnes ∈ j_gw := j_mem (j_c4 (i := 42) (by decide +kernel)) rfl
theorem se_X9_gladOnes : Cond.selects RX9 yX9_gladOnes yX9_gladOnes ∈ j_gw := j_mem (j_c4 (i := 43) (by decide +kernel)) rfl
theorem cd_X9_gladOnes : Cond.code yX9_gladOnes cX9_gladOnes 2 (some .int) ∈ j_gw := j_mem (j_c4 (i := 44) (by decide +kernel)) rfl
theorem mlL_160 : Cond.methodLink RL 160 yX9_empty ∈ j_gw := j_mem (j_c4 (i := 45) (by decide +kernel)) rfl
theorem im_X9_empty : Cond.instanceMethod yX9_empty ∈ j_gw := j_mem (j_c4 (i := 46) (by decide +kernel)) rfl
theorem se_X9_empty : Cond.selects RX9 yX9_empty yX9_empty ∈ j_gw := j_mem (j_c4 (i := 47) (by decide +kernel)) rfl
theorem cd_X9_empty : Cond.code yX9_empty cX9_empty 2 (some .int) ∈ j_gw := j_mem (j_c4 (i := 48) (by decide +kernel)) rfl
theorem mlL_164 : Cond.methodLink RL 164 yX9_without ∈ j_gw := j_mem (j_c4 (i := 49) (by decide +kernel)) rfl
theorem im_X9_without : Cond.instanceMethod yX9_without ∈ j_gw := j_mem (j_c4 (i := 50) (by decide +kernel)) rfl
theorem se_X9_without : Cond.selects RX9 yX9_without yX9_without ∈ j_gw := j_mem (j_c4 (i := 51) (by decide +kernel)) rfl
theorem cd_X9_without : Cond.code yX9_without cX9_without 2 (some .int) ∈ j_gw := j_mem (j_c4 (i := 52) (by decide +kernel)) rfl
theorem mlL_180 : Cond.methodLink RL 180 yX9_twice ∈ j_gw := j_mem (j_c4 (i := 53) (by decide +kernel)) rfl
theorem im_X9_twice : Cond.instanceMethod yX9_twice ∈ j_gw := j_mem (j_c4 (i := 54) (by decide +kernel)) rfl
theorem se_X9_twice : Cond.selects RX9 yX9_twice yX9_twice ∈ j_gw := j_mem (j_c4 (i := 55) (by decide +kernel)) rfl
theorem cd_X9_twice : Cond.code yX9_twice cX9_twice 3 (some .int) ∈ j_gw := j_mem (j_c4 (i := 56) (by decide +kernel)) rfl
theorem mlL_184 : Cond.methodLink RL 184 yX9_unlike ∈ j_gw := j_mem (j_c4 (i := 57) (by decide +kernel)) rfl
theorem im_X9_unlike : Cond.instanceMethod yX9_unlike ∈ j_gw := j_mem (j_c4 (i := 58) (by decide +kernel)) rfl
theorem se_X9_unlike : Cond.selects RX9 yX9_unlike yX9_unlike ∈ j_gw := j_mem (j_c4 (i := 59) (by decide +kernel)) rfl
theorem cd_X9_unlike : Cond.code yX9_unlike cX9_unlike 2 (some .int) ∈ j_gw := j_mem (j_c4 (i := 60) (by decide +kernel)) rfl
theorem mlX9_282 : Cond.methodLinkNest RX9 282 yX4_countUnlike "SeenInOrderOfAge" ∈ j_nw := j_memN (j_c4 (i := 61) (by decide +kernel)) rfl
theorem im_X4_countUnlike : Cond.instanceMethod yX4_countUnlike ∈ j_gw := j_mem (j_c4 (i := 63) (by decide +kernel)) rfl
theorem cd_X4_countUnlike : Cond.code yX4_countUnlike cX4_countUnlike 4 (some .int) ∈ j_gw := j_mem (j_c4 (i := 64) (by decide +kernel)) rfl
theorem mlL_196 : Cond.methodLink RL 196 yX9_judge ∈ j_gw := j_mem (j_c4 (i := 65) (by decide +kernel)) rfl
theorem im_X9_judge : Cond.instanceMethod yX9_judge ∈ j_gw := j_mem (j_c4 (i := 66) (by decide +kernel)) rfl
theorem se_X9_judge : Cond.selects RX9 yX9_judge yX9_judge ∈ j_gw := j_mem (j_c4 (i := 67) (by decide +kernel)) rfl
theorem cd_X9_judge : Cond.code yX9_judge cX9_judge 4 (some .int) ∈ j_gw := j_mem (j_c4 (i := 68) (by decide +kernel)) rfl
theorem mlX9_285 : Cond.methodLinkNest RX9 285 yX4_wrongPair "SeenInOrderOfAge" ∈ j_nw := j_memN (j_c4 (i := 69) (by decide +kernel)) rfl
theorem im_X4_wrongPair : Cond.instanceMethod yX4_wrongPair ∈ j_gw := j_mem (j_c4 (i := 71) (by decide +kernel)) rfl
theorem cd_X4_wrongPair : Cond.code yX4_wrongPair cX4_wrongPair 8 (some .int) ∈ j_gw := j_mem (j_c4 (i := 72) (by decide +kernel)) rfl
theorem mlX4_120 : Cond.methodLink RX4 120 yX4_toldLookers ∈ j_gw := j_mem (j_c4 (i := 73) (by decide +kernel)) rfl
theorem im_X4_toldLookers : Cond.instanceMethod yX4_toldLookers ∈ j_gw := j_mem (j_c4 (i := 75) (by decide +kernel)) rfl
theorem cd_X4_toldLookers : Cond.code yX4_toldLookers cX4_toldLookers 7 (some .int) ∈ j_gw := j_mem (j_c4 (i := 76) (by decide +kernel)) rfl
theorem mlX4_127 : Cond.methodLinkNest RX4 127 yX5_elementAt "SeenInOrderOfAge" ∈ j_nw := j_memN (j_c4 (i := 77) (by decide +kernel)) rfl
theorem mlX4_124 : Cond.methodLink RX4 124 yX4_inOrder ∈ j_gw := j_mem (j_c4 (i := 78) (by decide +kernel)) rfl
theorem mlX4_133 : Cond.methodLink RX4 133 yX4_takes ∈ j_gw := j_mem (j_c4 (i := 79) (by decide +kernel)) rfl
theorem mlX4_136 : Cond.methodLink RX4 136 yX4_firstTaken ∈ j_gw := j_mem (j_c4 (i := 80) (by decide +kernel)) rfl
theorem im_X4_firstTaken : Cond.instanceMethod yX4_firstTaken ∈ j_gw := j_mem (j_c4 (i := 82) (by decide +kernel)) rfl
theorem cd_X4_firstTaken : Cond.code yX4_firstTaken cX4_firstTaken 5 (some .int) ∈ j_gw := j_mem (j_c4 (i := 83) (by decide +kernel)) rfl
theorem mlX4_107 : Cond.methodLink RX4 107 yJ6_numberOfTrailingZeros_0f7a4 ∈ j_gw := j_mem (j_c4 (i := 84) (by decide +kernel)) rfl
theorem sm_J6_numberOfTrailingZeros_0f7a4 : Cond.static yJ6_numberOfTrailingZeros_0f7a4 ∈ j_gw := j_mem (j_c4 (i := 85) (by decide +kernel)) rfl
theorem cd_J6_numberOfTrailingZeros_0f7a4 : Cond.code yJ6_numberOfTrailingZeros_0f7a4 cJ6_numberOfTrailingZeros_0f7a4 2 (some .int) ∈ j_gw := j_mem (j_c4 (i := 86) (by decide +kernel)) rfl
theorem mlL_103 : Cond.methodLink RL 103 yX9_away ∈ j_gw := j_mem (j_c4 (i := 87) (by decide +kernel)) rfl
theorem im_X9_away : Cond.instanceMethod yX9_away ∈ j_gw := j_mem (j_c4 (i := 88) (by decide +kernel)) rfl
theorem se_X9_away : Cond.selects RX9 yX9_away yX9_away ∈ j_gw := j_mem (j_c4 (i := 89) (by decide +kernel)) rfl
theorem cd_X9_away : Cond.code yX9_away cX9_away 3 (some .int) ∈ j_gw := j_mem (j_c4 (i := 90) (by decide +kernel)) rfl
theorem mlX9_289 : Cond.methodLinkNest RX9 289 yX1_findAway "SeenInOrderOfAge" ∈ j_nw := j_memN (j_c4 (i := 91) (by decide +kernel)) rfl
theorem im_X1_findAway : Cond.instanceMethod yX1_findAway ∈ j_gw := j_mem (j_c4 (i := 93) (by decide +kernel)) rfl
theorem cd_X1_findAway : Cond.code yX1_findAway cX1_findAway 6 none ∈ j_gw := j_mem (j_c4 (i := 94) (by decide +kernel)) rfl
theorem mlX1_18 : Cond.methodLinkNest RX1 18 yX4_everybody "SeenInOrderOfAge" ∈ j_nw := j_memN (j_c4 (i := 95) (by decide +kernel)) rfl
theorem mlX1_31 : Cond.methodLink RX1 31 yJ6_bitCount_0f7a4 ∈ j_gw := j_mem (j_c4 (i := 96) (by decide +kernel)) rfl
theorem mlX1_40 : Cond.methodLinkNest RX1 40 yX2_run "SeenInOrderOfAge" ∈ j_nw := j_memN (j_c4 (i := 97) (by decide +kernel)) rfl
theorem mlL_107 : Cond.methodLink RL 107 yX9_crowd ∈ j_gw := j_mem (j_c4 (i := 98) (by decide +kernel)) rfl
theorem im_X9_crowd : Cond.instanceMethod yX9_crowd ∈ j_gw := j_mem (j_c4 (i := 99) (by decide +kernel)) rfl
theorem se_X9_crowd : Cond.selects RX9 yX9_crowd yX9_crowd ∈ j_gw := j_mem (j_c4 (i := 100) (by decide +kernel)) rfl
theorem cd_X9_crowd : Cond.code yX9_crowd cX9_crowd 3 (some .int) ∈ j_gw := j_mem (j_c4 (i := 101) (by decide +kernel)) rfl
theorem mlX9_302 : Cond.methodLinkNest RX9 302 yX1_findGladdest "SeenInOrderOfAge" ∈ j_nw := j_memN (j_c4 (i := 102) (by decide +kernel)) rfl
theorem im_X1_findGladdest : Cond.instanceMethod yX1_findGladdest ∈ j_gw := j_mem (j_c4 (i := 104) (by decide +kernel)) rfl
theorem cd_X1_findGladdest : Cond.code yX1_findGladdest cX1_findGladdest 6 none ∈ j_gw := j_mem (j_c4 (i := 105) (by decide +kernel)) rfl
theorem mlL_115 : Cond.methodLink RL 115 yX9_who ∈ j_gw := j_mem (j_c4 (i := 106) (by decide +kernel)) rfl
theorem im_X9_who : Cond.instanceMethod yX9_who ∈ j_gw := j_mem (j_c4 (i := 107) (by decide +kernel)) rfl
theorem se_X9_who : Cond.selects RX9 yX9_who yX9_who ∈ j_gw := j_mem (j_c4 (i := 108) (by decide +kernel)) rfl
theorem cd_X9_who : Cond.code yX9_who cX9_who 3 (some .int) ∈ j_gw := j_mem (j_c4 (i := 109) (by decide +kernel)) rfl
theorem mlX9_305 : Cond.methodLink RX9 305 yX9_isPlaces ∈ j_gw := j_mem (j_c4 (i := 110) (by decide +kernel)) rfl
theorem sm_X9_isPlaces : Cond.static yX9_isPlaces ∈ j_gw := j_mem (j_c4 (i := 111) (by decide +kernel)) rfl
theorem cd_X9_isPlaces : Cond.code yX9_isPlaces cX9_isPlaces 1 (some .boolean) ∈ j_gw := j_mem (j_c4 (i := 112) (by decide +kernel)) rfl
theorem mlX9_308 : Cond.methodLinkNest RX9 308 yX1_findLeaving "SeenInOrderOfAge" ∈ j_nw := j_memN (j_c4 (i := 113) (by decide +kernel)) rfl
theorem im_X1_findLeaving : Cond.instanceMethod yX1_findLeaving ∈ j_gw := j_mem (j_c4 (i := 115) (by decide +kernel)) rfl
theorem cd_X1_findLeaving : Cond.code yX1_findLeaving cX1_findLeaving 5 none ∈ j_gw := j_mem (j_c4 (i := 116) (by decide +kernel)) rfl
theorem mlL_124 : Cond.methodLink RL 124 yX9_odds ∈ j_gw := j_mem (j_c4 (i := 117) (by decide +kernel)) rfl
theorem im_X9_odds : Cond.instanceMethod yX9_odds ∈ j_gw := j_mem (j_c4 (i := 118) (by decide +kernel)) rfl
theorem se_X9_odds : Cond.selects RX9 yX9_odds yX9_odds ∈ j_gw := j_mem (j_c4 (i := 119) (by decide +kernel)) rfl
theorem cd_X9_odds : Cond.code yX9_odds cX9_odds 2 (some .int) ∈ j_gw := j_mem (j_c4 (i := 120) (by decide +kernel)) rfl
theorem mlX9_317 : Cond.methodLinkNest RX9 317 yX0_ofLeft "SeenInOrderOfAge" ∈ j_nw := j_memN (j_c4 (i := 121) (by decide +kernel)) rfl
theorem im_X0_ofLeft : Cond.instanceMethod yX0_ofLeft ∈ j_gw := j_mem (j_c4 (i := 123) (by decide +kernel)) rfl
theorem cd_X0_ofLeft : Cond.code yX0_ofLeft cX0_ofLeft 7 (some .int) ∈ j_gw := j_mem (j_c4 (i := 124) (by decide +kernel)) rfl
theorem mlX0_35 : Cond.methodLinkNest RX0 35 yX4_everybody "SeenInOrderOfAge" ∈ j_nw := j_memN (j_c4 (i := 125) (by decide +kernel)) rfl
theorem mlX0_42 : Cond.methodLinkNest RX0 42 yX2_run "SeenInOrderOfAge" ∈ j_nw := j_memN (j_c4 (i := 126) (by decide +kernel)) rfl
theorem mlX0_49 : Cond.methodLink RX0 49 yX0_waysOf ∈ j_gw := j_mem (j_c4 (i := 127) (by decide +kernel)) rfl
theorem sm_X0_waysOf : Cond.static yX0_waysOf ∈ j_gw := j_mem (j_c4 (i := 128) (by decide +kernel)) rfl
theorem cd_X0_waysOf : Cond.code yX0_waysOf cX0_waysOf 7 (some .long) ∈ j_gw := j_mem (j_c4 (i := 129) (by decide +kernel)) rfl
theorem kcX0_53 : Cond.constantLong RX0 53 (1000000) ∈ j_gw := j_mem (j_c4 (i := 130) (by decide +kernel)) rfl
theorem mlX0_55 : Cond.methodLink RX0 55 yX0_share ∈ j_gw := j_mem (j_c4 (i := 131) (by decide +kernel)) rfl
theorem sm_X0_share : Cond.static yX0_share ∈ j_gw := j_mem (j_c4 (i := 132) (by decide +kernel)) rfl
theorem cd_X0_share : Cond.code yX0_share cX0_share 8 (some .int) ∈ j_gw := j_mem (j_c4 (i := 133) (by decide +kernel)) rfl
theorem kcX0_33 : Cond.constantLong RX0 33 (12) ∈ j_gw := j_mem (j_c4 (i := 134) (by decide +kernel)) rfl
theorem mlL_128 : Cond.methodLink RL 128 yX9_likely ∈ j_gw := j_mem (j_c4 (i := 135) (by decide +kernel)) rfl
theorem im_X9_likely : Cond.instanceMethod yX9_likely ∈ j_gw := j_mem (j_c4 (i := 136) (by decide +kernel)) rfl
theorem se_X9_likely : Cond.selects RX9 yX9_likely yX9_likely ∈ j_gw := j_mem (j_c4 (i := 137) (by decide +kernel)) rfl
theorem cd_X9_likely : Cond.code yX9_likely cX9_likely 2 (some .int) ∈ j_gw := j_mem (j_c4 (i := 138) (by decide +kernel)) rfl
theorem mlX9_321 : Cond.methodLinkNest RX9 321 yX0_ofGlad "SeenInOrderOfAge" ∈ j_nw := j_memN (j_c4 (i := 139) (by decide +kernel)) rfl
theorem im_X0_ofGlad : Cond.instanceMethod yX0_ofGlad ∈ j_gw := j_mem (j_c4 (i := 141) (by decide +kernel)) rfl
theorem cd_X0_ofGlad : Cond.code yX0_ofGlad cX0_ofGlad 7 (some .int) ∈ j_gw := j_mem (j_c4 (i := 142) (by decide +kernel)) rfl
theorem mlL_132 : Cond.methodLink RL 132 yX9_gladOdds ∈ j_gw := j_mem (j_c4 (i := 143) (by decide +kernel)) rfl
theorem im_X9_gladOdds : Cond.instanceMethod yX9_gladOdds ∈ j_gw := j_mem (j_c4 (i := 144) (by decide +kernel)) rfl
theorem se_X9_gladOdds : Cond.selects RX9 yX9_gladOdds yX9_gladOdds ∈ j_gw := j_mem (j_c4 (i := 145) (by decide +kernel)) rfl
theorem cd_X9_gladOdds : Cond.code yX9_gladOdds cX9_gladOdds 2 (some .int) ∈ j_gw := j_mem (j_c4 (i := 146) (by decide +kernel)) rfl
theorem mlX9_324 : Cond.methodLinkNest RX9 324 yX0_ofManyGlad "SeenInOrderOfAge" ∈ j_nw := j_memN (j_c4 (i := 147) (by decide +kernel)) rfl
theorem im_X0_ofManyGlad : Cond.instanceMethod yX0_ofManyGlad ∈ j_gw := j_mem (j_c4 (i := 149) (by decide +kernel)) rfl
theorem cd_X0_ofManyGlad : Cond.code yX0_ofManyGlad cX0_ofManyGlad 7 (some .int) ∈ j_gw := j_mem (j_c4 (i := 150) (by decide +kernel)) rfl
theorem mlX0_62 : Cond.methodLink RX0 62 yJ6_bitCount_0f7a4 ∈ j_gw := j_mem (j_c4 (i := 151) (by decide +kernel)) rfl
theorem mlL_136 : Cond.methodLink RL 136 yX9_meanLeft ∈ j_gw := j_mem (j_c4 (i := 152) (by decide +kernel)) rfl
theorem im_X9_meanLeft : Cond.instanceMethod yX9_meanLeft ∈ j_gw := j_mem (j_c4 (i := 153) (by decide +kernel)) rfl
theorem se_X9_meanLeft : Cond.selects RX9 yX9_meanLeft yX9_meanLeft ∈ j_gw := j_mem (j_c4 (i := 154) (by decide +kernel)) rfl
theorem cd_X9_meanLeft : Cond.code yX9_meanLeft cX9_meanLeft 1 (some .int) ∈ j_gw := j_mem (j_c4 (i := 155) (by decide +kernel)) rfl
theorem mlX9_327 : Cond.methodLinkNest RX9 327 yX0_meanOfLeft "SeenInOrderOfAge" ∈ j_nw := j_memN (j_c4 (i := 156) (by decide +kernel)) rfl
theorem im_X0_meanOfLeft : Cond.instanceMethod yX0_meanOfLeft ∈ j_gw := j_mem (j_c4 (i := 158) (by decide +kernel)) rfl
theorem cd_X0_meanOfLeft : Cond.code yX0_meanOfLeft cX0_meanOfLeft 6 (some .int) ∈ j_gw := j_mem (j_c4 (i := 159) (by decide +kernel)) rfl
theorem kcX0_68 : Cond.constantLong RX0 68 (1000) ∈ j_gw := j_mem (j_c4 (i := 160) (by decide +kernel)) rfl
theorem mlL_111 : Cond.methodLink RL 111 yX9_setOut ∈ j_gw := j_mem (j_c4 (i := 161) (by decide +kernel)) rfl
theorem im_X9_setOut : Cond.instanceMethod yX9_setOut ∈ j_gw := j_mem (j_c4 (i := 162) (by decide +kernel)) rfl
theorem se_X9_setOut : Cond.selects RX9 yX9_setOut yX9_setOut ∈ j_gw := j_mem (j_c4 (i := 163) (by decide +kernel)) rfl
theorem cd_X9_setOut : Cond.code yX9_setOut cX9_setOut 4 (some .int) ∈ j_gw := j_mem (j_c4 (i := 164) (by decide +kernel)) rfl
theorem mlX9_330 : Cond.methodLinkNest RX9 330 yX8_findSetOut "SeenInOrderOfAge" ∈ j_nw := j_memN (j_c4 (i := 165) (by decide +kernel)) rfl
theorem im_X8_findSetOut : Cond.instanceMethod yX8_findSetOut ∈ j_gw := j_mem (j_c4 (i := 167) (by decide +kernel)) rfl
theorem cd_X8_findSetOut : Cond.code yX8_findSetOut cX8_findSetOut 6 (some .int) ∈ j_gw := j_mem (j_c4 (i := 168) (by decide +kernel)) rfl
theorem mlX8_32 : Cond.methodLinkNest RX8 32 yX4_become "SeenInOrderOfAge" ∈ j_nw := j_memN (j_c4 (i := 169) (by decide +kernel)) rfl
theorem mlX8_36 : Cond.methodLink RX8 36 yX8_findEmptyPlaces ∈ j_gw := j_mem (j_c4 (i := 170) (by decide +kernel)) rfl
theorem im_X8_findEmptyPlaces : Cond.instanceMethod yX8_findEmptyPlaces ∈ j_gw := j_mem (j_c4 (i := 172) (by decide +kernel)) rfl
theorem cd_X8_findEmptyPlaces : Cond.code yX8_findEmptyPlaces cX8_findEmptyPlaces 3 (some .int) ∈ j_gw := j_mem (j_c4 (i := 173) (by decide +kernel)) rfl
theorem mlX8_53 : Cond.methodLink RX8 53 yX8_isEnough ∈ j_gw := j_mem (j_c4 (i := 174) (by decide +kernel)) rfl
theorem im_X8_isEnough : Cond.instanceMethod yX8_isEnough ∈ j_gw := j_mem (j_c4 (i := 176) (by decide +kernel)) rfl
theorem cd_X8_isEnough : Cond.code yX8_isEnough cX8_isEnough 6 (some .boolean) ∈ j_gw := j_mem (j_c4 (i := 177) (by decide +kernel)) rfl
theorem mlX8_60 : Cond.methodLink RX8 60 yX8_putRow ∈ j_gw := j_mem (j_c4 (i := 178) (by decide +kernel)) rfl
theorem im_X8_putRow : Cond.instanceMethod yX8_putRow ∈ j_gw := j_mem (j_c4 (i := 180) (by decide +kernel)) rfl
theorem cd_X8_putRow : Cond.code yX8_putRow cX8_putRow 6 (some .boolean) ∈ j_gw := j_mem (j_c4 (i := 181) (by decide +kernel)) rfl
theorem mlX8_73 : Cond.methodLinkNest RX8 73 yX4_put "SeenInOrderOfAge" ∈ j_nw := j_memN (j_c4 (i := 182) (by decide +kernel)) rfl
theorem mlX8_66 : Cond.methodLinkNest RX8 66 yX2_run "SeenInOrderOfAge" ∈ j_nw := j_memN (j_c4 (i := 183) (by decide +kernel)) rfl
theorem mlX9_333 : Cond.methodLinkNest RX9 333 yX8_sortSetOut "SeenInOrderOfAge" ∈ j_nw := j_memN (j_c4 (i := 184) (by decide +kernel)) rfl
theorem im_X8_sortSetOut : Cond.instanceMethod yX8_sortSetOut ∈ j_gw := j_mem (j_c4 (i := 186) (by decide +kernel)) rfl
theorem cd_X8_sortSetOut : Cond.code yX8_sortSetOut cX8_sortSetOut 2 (some .int) ∈ j_gw := j_mem (j_c4 (i := 187) (by decide +kernel)) rfl
theorem mlL_119 : Cond.methodLink RL 119 yX9_kinds ∈ j_gw := j_mem (j_c4 (i := 188) (by decide +kernel)) rfl
theorem im_X9_kinds : Cond.instanceMethod yX9_kinds ∈ j_gw := j_mem (j_c4 (i := 189) (by decide +kernel)) rfl
theorem se_X9_kinds : Cond.selects RX9 yX9_kinds yX9_kinds ∈ j_gw := j_mem (j_c4 (i := 190) (by decide +kernel)) rfl
theorem cd_X9_kinds : Cond.code yX9_kinds cX9_kinds 5 (some .int) ∈ j_gw := j_mem (j_c4 (i := 191) (by decide +kernel)) rfl
theorem mlX9_336 : Cond.methodLinkNest RX9 336 yX8_kindsTaking "SeenInOrderOfAge" ∈ j_nw := j_memN (j_c4 (i := 192) (by decide +kernel)) rfl
theorem im_X8_kindsTaking : Cond.instanceMethod yX8_kindsTaking ∈ j_gw := j_mem (j_c4 (i := 194) (by decide +kernel)) rfl
theorem cd_X8_kindsTaking : Cond.code yX8_kindsTaking cX8_kindsTaking 7 (some .int) ∈ j_gw := j_mem (j_c4 (i := 195) (by decide +kernel)) rfl
theorem mlX9_340 : Cond.methodLinkNest RX9 340 yX8_wishesTaking "SeenInOrderOfAge" ∈ j_nw := j_memN (j_c4 (i := 196) (by decide +kernel)) rfl
theorem im_X8_wishesTaking : Cond.instanceMethod yX8_wishesTaking ∈ j_gw := j_mem (j_c4 (i := 198) (by decide +kernel)) rfl
theorem cd_X8_wishesTaking : Cond.code yX8_wishesTaking cX8_wishesTaking 7 (some .int) ∈ j_gw := j_mem (j_c4 (i := 199) (by decide +kernel)) rfl
theorem mlL_168 : Cond.methodLink RL 168 yX9_exchanged ∈ j_gw := j_mem (j_c4 (i := 200) (by decide +kernel)) rfl
theorem im_X9_exchanged : Cond.instanceMethod yX9_exchanged ∈ j_gw := j_mem (j_c4 (i := 201) (by decide +kernel)) rfl
theorem se_X9_exchanged : Cond.selects RX9 yX9_exchanged yX9_exchanged ∈ j_gw := j_mem (j_c4 (i := 202) (by decide +kernel)) rfl
theorem cd_X9_exchanged : Cond.code yX9_exchanged cX9_exchanged 3 (some .int) ∈ j_gw := j_mem (j_c4 (i := 203) (by decide +kernel)) rfl
theorem mlX9_343 : Cond.methodLinkNest RX9 343 yX8_gladExchanged "SeenInOrderOfAge" ∈ j_nw := j_memN (j_c4 (i := 204) (by decide +kernel)) rfl
theorem im_X8_gladExchanged : Cond.instanceMethod yX8_gladExchanged ∈ j_gw := j_mem (j_c4 (i := 206) (by decide +kernel)) rfl
theorem cd_X8_gladExchanged : Cond.code yX8_gladExchanged cX8_gladExchanged 4 (some .int) ∈ j_gw := j_mem (j_c4 (i := 207) (by decide +kernel)) rfl
theorem mlX8_86 : Cond.methodLinkNest RX8 86 yX4_putAge "SeenInOrderOfAge" ∈ j_nw := j_memN (j_c4 (i := 208) (by decide +kernel)) rfl
theorem mlX8_89 : Cond.methodLinkNest RX8 89 yX4_everybody "SeenInOrderOfAge" ∈ j_nw := j_memN (j_c4 (i := 209) (by decide +kernel)) rfl
theorem mlX8_92 : Cond.methodLink RX8 92 yJ6_bitCount_0f7a4 ∈ j_gw := j_mem (j_c4 (i := 210) (by decide +kernel)) rfl
theorem mlL_172 : Cond.methodLink RL 172 yX9_bestPair ∈ j_gw := j_mem (j_c4 (i := 211) (by decide +kernel)) rfl
theorem im_X9_bestPair : Cond.instanceMethod yX9_bestPair ∈ j_gw := j_mem (j_c4 (i := 212) (by decide +kernel)) rfl
theorem se_X9_bestPair : Cond.selects RX9 yX9_bestPair yX9_bestPair ∈ j_gw := j_mem (j_c4 (i := 213) (by decide +kernel)) rfl
theorem cd_X9_bestPair : Cond.code yX9_bestPair cX9_bestPair 1 (some .int) ∈ j_gw := j_mem (j_c4 (i := 214) (by decide +kernel)) rfl
theorem mlX9_347 : Cond.methodLinkNest RX9 347 yX8_bestExchange "SeenInOrderOfAge" ∈ j_nw := j_memN (j_c4 (i := 215) (by decide +kernel)) rfl
theorem im_X8_bestExchange : Cond.instanceMethod yX8_bestExchange ∈ j_gw := j_mem (j_c4 (i := 217) (by decide +kernel)) rfl
theorem cd_X8_bestExchange : Cond.code yX8_bestExchange cX8_bestExchange 7 (some .int) ∈ j_gw := j_mem (j_c4 (i := 218) (by decide +kernel)) rfl
theorem mlX8_98 : Cond.methodLink RX8 98 yX8_gladExchanged ∈ j_gw := j_mem (j_c4 (i := 219) (by decide +kernel)) rfl
theorem mlL_176 : Cond.methodLink RL 176 yX9_oldest ∈ j_gw := j_mem (j_c4 (i := 220) (by decide +kernel)) rfl
theorem im_X9_oldest : Cond.instanceMethod yX9_oldest ∈ j_gw := j_mem (j_c4 (i := 221) (by decide +kernel)) rfl
theorem se_X9_oldest : Cond.selects RX9 yX9_oldest yX9_oldest ∈ j_gw := j_mem (j_c4 (i := 222) (by decide +kernel)) rfl
theorem cd_X9_oldest : Cond.code yX9_oldest cX9_oldest 2 (some .int) ∈ j_gw := j_mem (j_c4 (i := 223) (by decide +kernel)) rfl
theorem mlX9_350 : Cond.methodLinkNest RX9 350 yX8_greatestGladAge "SeenInOrderOfAge" ∈ j_nw := j_memN (j_c4 (i := 224) (by decide +kernel)) rfl
theorem im_X8_greatestGladAge : Cond.instanceMethod yX8_greatestGladAge ∈ j_gw := j_mem (j_c4 (i := 226) (by decide +kernel)) rfl
theorem cd_X8_greatestGladAge : Cond.code yX8_greatestGladAge cX8_greatestGladAge 4 (some .int) ∈ j_gw := j_mem (j_c4 (i := 227) (by decide +kernel)) rfl
theorem mlL_188 : Cond.methodLink RL 188 yX9_next ∈ j_gw := j_mem (j_c4 (i := 228) (by decide +kernel)) rfl
theorem im_X9_next : Cond.instanceMethod yX9_next ∈ j_gw := j_mem (j_c4 (i := 229) (by decide +kernel)) rfl
theorem se_X9_next : Cond.selects RX9 yX9_next yX9_next ∈ j_gw := j_mem (j_c4 (i := 230) (by decide +kernel)) rfl
theorem cd_X9_next : Cond.code yX9_next cX9_next 2 (some .int) ∈ j_gw := j_mem (j_c4 (i := 231) (by decide +kernel)) rfl
theorem mlX9_353 : Cond.methodLinkNest RX9 353 yX6_settle "SeenInOrderOfAge" ∈ j_nw := j_memN (j_c4 (i := 232) (by decide +kernel)) rfl
theorem im_X6_settle : Cond.instanceMethod yX6_settle ∈ j_gw := j_mem (j_c4 (i := 234) (by decide +kernel)) rfl
theorem cd_X6_settle : Cond.code yX6_settle cX6_settle 4 none ∈ j_gw := j_mem (j_c4 (i := 235) (by decide +kernel)) rfl
theorem mlX6_18 : Cond.methodLink RX6 18 yJ7_fill_53178 ∈ j_gw := j_mem (j_c4 (i := 236) (by decide +kernel)) rfl
theorem mlX6_24 : Cond.methodLinkNest RX6 24 yX4_bringers "SeenInOrderOfAge" ∈ j_nw := j_memN (j_c4 (i := 237) (by decide +kernel)) rfl
theorem im_X4_bringers : Cond.instanceMethod yX4_bringers ∈ j_gw := j_mem (j_c4 (i := 239) (by decide +kernel)) rfl
theorem cd_X4_bringers : Cond.code yX4_bringers cX4_bringers 3 (some .int) ∈ j_gw := j_mem (j_c5 (i := 0) (by decide +kernel)) rfl
theorem mlX6_30 : Cond.methodLink RX6 30 yX6_settleRings ∈ j_gw := j_mem (j_c5 (i := 1) (by decide +kernel)) rfl
theorem im_X6_settleRings : Cond.instanceMethod yX6_settleRings ∈ j_gw := j_mem (j_c5 (i := 3) (by decide +kernel)) rfl
theorem cd_X6_settleRings : Cond.code yX6_settleRings cX6_settleRings 5 (some .int) ∈ j_gw := j_mem (j_c5 (i := 4) (by decide +kernel)) rfl
theorem mlX6_38 : Cond.methodLink RX6 38 yX6_wishOf ∈ j_gw := j_mem (j_c5 (i := 5) (by decide +kernel)) rfl
theorem im_X6_wishOf : Cond.instanceMethod yX6_wishOf ∈ j_gw := j_mem (j_c5 (i := 7) (by decide +kernel)) rfl
theorem cd_X6_wishOf : Cond.code yX6_wishOf cX6_wishOf 7 (some .int) ∈ j_gw := j_mem (j_c5 (i := 8) (by decide +kernel)) rfl
theorem mlX6_58 : Cond.methodLink RX6 58 yX6_firstWhoBrings ∈ j_gw := j_mem (j_c5 (i := 9) (by decide +kernel)) rfl
theorem sm_X6_firstWhoBrings : Cond.static yX6_firstWhoBrings ∈ j_gw := j_mem (j_c5 (i := 10) (by decide +kernel)) rfl
theorem cd_X6_firstWhoBrings : Cond.code yX6_firstWhoBrings cX6_firstWhoBrings 4 (some .int) ∈ j_gw := j_mem (j_c5 (i := 11) (by decide +kernel)) rfl
theorem mlX6_42 : Cond.methodLink RX6 42 yX6_isOnRing ∈ j_gw := j_mem (j_c5 (i := 12) (by decide +kernel)) rfl
theorem im_X6_isOnRing : Cond.instanceMethod yX6_isOnRing ∈ j_gw := j_mem (j_c5 (i := 14) (by decide +kernel)) rfl
theorem cd_X6_isOnRing : Cond.code yX6_isOnRing cX6_isOnRing 4 (some .boolean) ∈ j_gw := j_mem (j_c5 (i := 15) (by decide +kernel)) rfl
theorem mlL_192 : Cond.methodLink RL 192 yX9_swapped ∈ j_gw := j_mem (j_c5 (i := 16) (by decide +kernel)) rfl
theorem im_X9_swapped : Cond.instanceMethod yX9_swapped ∈ j_gw := j_mem (j_c5 (i := 17) (by decide +kernel)) rfl
theorem se_X9_swapped : Cond.selects RX9 yX9_swapped yX9_swapped ∈ j_gw := j_mem (j_c5 (i := 18) (by decide +kernel)) rfl
theorem cd_X9_swapped : Cond.code yX9_swapped cX9_swapped 1 (some .int) ∈ j_gw := j_mem (j_c5 (i := 19) (by decide +kernel)) rfl
theorem mlX9_359 : Cond.methodLinkNest RX9 359 yX6_countOthers "SeenInOrderOfAge" ∈ j_nw := j_memN (j_c5 (i := 20) (by decide +kernel)) rfl
theorem im_X6_countOthers : Cond.instanceMethod yX6_countOthers ∈ j_gw := j_mem (j_c5 (i := 22) (by decide +kernel)) rfl
theorem cd_X6_countOthers : Cond.code yX6_countOthers cX6_countOthers 4 (some .int) ∈ j_gw := j_mem (j_c5 (i := 23) (by decide +kernel)) rfl
theorem mlL_204 : Cond.methodLink RL 204 yX9_swap ∈ j_gw := j_mem (j_c5 (i := 24) (by decide +kernel)) rfl
theorem im_X9_swap : Cond.instanceMethod yX9_swap ∈ j_gw := j_mem (j_c5 (i := 25) (by decide +kernel)) rfl
theorem se_X9_swap : Cond.selects RX9 yX9_swap yX9_swap ∈ j_gw := j_mem (j_c5 (i := 26) (by decide +kernel)) rfl
theorem cd_X9_swap : Cond.code yX9_swap cX9_swap 2 (some .int) ∈ j_gw := j_mem (j_c5 (i := 27) (by decide +kernel)) rfl
theorem mlX9_362 : Cond.methodLinkNest RX9 362 yX6_carryOut "SeenInOrderOfAge" ∈ j_nw := j_memN (j_c5 (i := 28) (by decide +kernel)) rfl
theorem im_X6_carryOut : Cond.instanceMethod yX6_carryOut ∈ j_gw := j_mem (j_c5 (i := 30) (by decide +kernel)) rfl
theorem cd_X6_carryOut : Cond.code yX6_carryOut cX6_carryOut 4 none ∈ j_gw := j_mem (j_c5 (i := 31) (by decide +kernel)) rfl
theorem mlX6_64 : Cond.methodLinkNest RX6 64 yX3_lose "SeenInOrderOfAge" ∈ j_nw := j_memN (j_c5 (i := 32) (by decide +kernel)) rfl
theorem im_X3_lose : Cond.instanceMethod yX3_lose ∈ j_gw := j_mem (j_c5 (i := 34) (by decide +kernel)) rfl
theorem cd_X3_lose : Cond.code yX3_lose cX3_lose 2 none ∈ j_gw := j_mem (j_c5 (i := 35) (by decide +kernel)) rfl
theorem mlX3_46 : Cond.methodLinkNest RX3 46 yX9_isSort "SeenInOrderOfAge" ∈ j_nw := j_memN (j_c5 (i := 36) (by decide +kernel)) rfl
theorem mlX3_56 : Cond.methodLink RX3 56 yJ9_max_7cf53 ∈ j_gw := j_mem (j_c5 (i := 37) (by decide +kernel)) rfl
theorem sm_J9_max_7cf53 : Cond.static yJ9_max_7cf53 ∈ j_gw := j_mem (j_c5 (i := 38) (by decide +kernel)) rfl
theorem cd_J9_max_7cf53 : Cond.code yJ9_max_7cf53 cJ9_max_7cf53 2 (some .int) ∈ j_gw := j_mem (j_c5 (i := 39) (by decide +kernel)) rfl
theorem mlX6_68 : Cond.methodLinkNest RX6 68 yX3_gain "SeenInOrderOfAge" ∈ j_nw := j_memN (j_c5 (i := 40) (by decide +kernel)) rfl
theorem im_X3_gain : Cond.instanceMethod yX3_gain ∈ j_gw := j_mem (j_c5 (i := 42) (by decide +kernel)) rfl
theorem cd_X3_gain : Cond.code yX3_gain cX3_gain 2 none ∈ j_gw := j_mem (j_c5 (i := 43) (by decide +kernel)) rfl
theorem mlX3_50 : Cond.methodLink RX3 50 yJ9_min_7cf53 ∈ j_gw := j_mem (j_c5 (i := 44) (by decide +kernel)) rfl
theorem sm_J9_min_7cf53 : Cond.static yJ9_min_7cf53 ∈ j_gw := j_mem (j_c5 (i := 45) (by decide +kernel)) rfl
theorem cd_J9_min_7cf53 : Cond.code yJ9_min_7cf53 cJ9_min_7cf53 2 (some .int) ∈ j_gw := j_mem (j_c5 (i := 46) (by decide +kernel)) rfl
theorem mlL_200 : Cond.methodLink RL 200 yX9_evening ∈ j_gw := j_mem (j_c5 (i := 47) (by decide +kernel)) rfl
theorem im_X9_evening : Cond.instanceMethod yX9_evening ∈ j_gw := j_mem (j_c5 (i := 48) (by decide +kernel)) rfl
theorem se_X9_evening : Cond.selects RX9 yX9_evening yX9_evening ∈ j_gw := j_mem (j_c5 (i := 49) (by decide +kernel)) rfl
theorem cd_X9_evening : Cond.code yX9_evening cX9_evening 2 (some .int) ∈ j_gw := j_mem (j_c5 (i := 50) (by decide +kernel)) rfl
theorem mlX9_365 : Cond.methodLinkNest RX9 365 yX2_runInTruth "SeenInOrderOfAge" ∈ j_nw := j_memN (j_c5 (i := 51) (by decide +kernel)) rfl
theorem im_X2_runInTruth : Cond.instanceMethod yX2_runInTruth ∈ j_gw := j_mem (j_c5 (i := 53) (by decide +kernel)) rfl
theorem cd_X2_runInTruth : Cond.code yX2_runInTruth cX2_runInTruth 6 (some .int) ∈ j_gw := j_mem (j_c5 (i := 54) (by decide +kernel)) rfl
theorem mlX2_52 : Cond.methodLink RX2 52 yX2_run ∈ j_gw := j_mem (j_c5 (i := 55) (by decide +kernel)) rfl
theorem mlX2_56 : Cond.methodLink RX2 56 yX2_handOver ∈ j_gw := j_mem (j_c5 (i := 56) (by decide +kernel)) rfl
theorem im_X2_handOver : Cond.instanceMethod yX2_handOver ∈ j_gw := j_mem (j_c5 (i := 58) (by decide +kernel)) rfl
theorem cd_X2_handOver : Cond.code yX2_handOver cX2_handOver 6 none ∈ j_gw := j_mem (j_c5 (i := 59) (by decide +kernel)) rfl
theorem mlX2_73 : Cond.methodLinkNest RX2 73 yX4_firstTaken "SeenInOrderOfAge" ∈ j_nw := j_memN (j_c5 (i := 60) (by decide +kernel)) rfl
theorem mlX2_79 : Cond.methodLinkNest RX2 79 yX3_gain "SeenInOrderOfAge" ∈ j_nw := j_memN (j_c5 (i := 61) (by decide +kernel)) rfl
theorem mlX2_60 : Cond.methodLinkNest RX2 60 yX4_put "SeenInOrderOfAge" ∈ j_nw := j_memN (j_c5 (i := 62) (by decide +kernel)) rfl
theorem mlX2_67 : Cond.methodLink RX2 67 yJ6_bitCount_0f7a4 ∈ j_gw := j_mem (j_c5 (i := 63) (by decide +kernel)) rfl
theorem mlL_208 : Cond.methodLink RL 208 yX9_christmases ∈ j_gw := j_mem (j_c5 (i := 64) (by decide +kernel)) rfl
theorem im_X9_christmases : Cond.instanceMethod yX9_christmases ∈ j_gw := j_mem (j_c5 (i := 65) (by decide +kernel)) rfl
theorem se_X9_christmases : Cond.selects RX9 yX9_christmases yX9_christmases ∈ j_gw := j_mem (j_c5 (i := 66) (by decide +kernel)) rfl
theorem cd_X9_christmases : Cond.code yX9_christmases cX9_christmases 4 (some .int) ∈ j_gw := j_mem (j_c5 (i := 67) (by decide +kernel)) rfl
theorem mlX9_368 : Cond.methodLinkNest RX9 368 yX4_drawWhoCome "SeenInOrderOfAge" ∈ j_nw := j_memN (j_c5 (i := 68) (by decide +kernel)) rfl
theorem im_X4_drawWhoCome : Cond.instanceMethod yX4_drawWhoCome ∈ j_gw := j_mem (j_c5 (i := 70) (by decide +kernel)) rfl
theorem cd_X4_drawWhoCome : Cond.code yX4_drawWhoCome cX4_drawWhoCome 3 (some .int) ∈ j_gw := j_mem (j_c5 (i := 71) (by decide +kernel)) rfl
theorem mlX4_140 : Cond.methodLink RX4 140 yX4_draw ∈ j_gw := j_mem (j_c5 (i := 72) (by decide +kernel)) rfl
theorem im_X4_draw : Cond.instanceMethod yX4_draw ∈ j_gw := j_mem (j_c5 (i := 74) (by decide +kernel)) rfl
theorem cd_X4_draw : Cond.code yX4_draw cX4_draw 2 (some .int) ∈ j_gw := j_mem (j_c5 (i := 75) (by decide +kernel)) rfl
theorem kcX4_139 : Cond.constant RX4 139 (1103515245) ∈ j_gw := j_mem (j_c5 (i := 76) (by decide +kernel)) rfl
theorem mlX9_371 : Cond.methodLinkNest RX9 371 yX4_drawThings "SeenInOrderOfAge" ∈ j_nw := j_memN (j_c5 (i := 77) (by decide +kernel)) rfl
theorem im_X4_drawThings : Cond.instanceMethod yX4_drawThings ∈ j_gw := j_mem (j_c5 (i := 79) (by decide +kernel)) rfl
theorem cd_X4_drawThings : Cond.code yX4_drawThings cX4_drawThings 2 none ∈ j_gw := j_mem (j_c5 (i := 80) (by decide +kernel)) rfl
theorem mlX4_146 : Cond.methodLink RX4 146 yX4_put ∈ j_gw := j_mem (j_c5 (i := 81) (by decide +kernel)) rfl
theorem mlL_212 : Cond.methodLink RL 212 yX9_seed ∈ j_gw := j_mem (j_c5 (i := 82) (by decide +kernel)) rfl
theorem im_X9_seed : Cond.instanceMethod yX9_seed ∈ j_gw := j_mem (j_c5 (i := 83) (by decide +kernel)) rfl
theorem se_X9_seed : Cond.selects RX9 yX9_seed yX9_seed ∈ j_gw := j_mem (j_c5 (i := 84) (by decide +kernel)) rfl
theorem cd_X9_seed : Cond.code yX9_seed cX9_seed 3 (some .int) ∈ j_gw := j_mem (j_c5 (i := 85) (by decide +kernel)) rfl
theorem mlL_216 : Cond.methodLink RL 216 yX9_image ∈ j_gw := j_mem (j_c5 (i := 86) (by decide +kernel)) rfl
theorem im_X9_image : Cond.instanceMethod yX9_image ∈ j_gw := j_mem (j_c5 (i := 87) (by decide +kernel)) rfl
theorem se_X9_image : Cond.selects RX9 yX9_image yX9_image ∈ j_gw := j_mem (j_c5 (i := 88) (by decide +kernel)) rfl
theorem cd_X9_image : Cond.code yX9_image cX9_image 1 (some .int) ∈ j_gw := j_mem (j_c5 (i := 89) (by decide +kernel)) rfl
theorem mlL_220 : Cond.methodLink RL 220 yX9_back ∈ j_gw := j_mem (j_c5 (i := 90) (by decide +kernel)) rfl
theorem im_X9_back : Cond.instanceMethod yX9_back ∈ j_gw := j_mem (j_c5 (i := 91) (by decide +kernel)) rfl
theorem se_X9_back : Cond.selects RX9 yX9_back yX9_back ∈ j_gw := j_mem (j_c5 (i := 92) (by decide +kernel)) rfl
theorem cd_X9_back : Cond.code yX9_back cX9_back 3 (some .int) ∈ j_gw := j_mem (j_c5 (i := 93) (by decide +kernel)) rfl
theorem mlL_224 : Cond.methodLink RL 224 yX9_status ∈ j_gw := j_mem (j_c5 (i := 94) (by decide +kernel)) rfl
theorem im_X9_status : Cond.instanceMethod yX9_status ∈ j_gw := j_mem (j_c5 (i := 95) (by decide +kernel)) rfl
theorem se_X9_status : Cond.selects RX9 yX9_status yX9_status ∈ j_gw := j_mem (j_c5 (i := 96) (by decide +kernel)) rfl
theorem cd_X9_status : Cond.code yX9_status cX9_status 2 (some .int) ∈ j_gw := j_mem (j_c5 (i := 97) (by decide +kernel)) rfl
theorem mlX9_381 : Cond.methodLinkNest RX9 381 yX4_countHad "SeenInOrderOfAge" ∈ j_nw := j_memN (j_c5 (i := 98) (by decide +kernel)) rfl
theorem im_X4_countHad : Cond.instanceMethod yX4_countHad ∈ j_gw := j_mem (j_c5 (i := 100) (by decide +kernel)) rfl
theorem cd_X4_countHad : Cond.code yX4_countHad cX4_countHad 3 (some .int) ∈ j_gw := j_mem (j_c5 (i := 101) (by decide +kernel)) rfl
theorem mlX9_387 : Cond.methodLinkNest RX9 387 yX4_bringers "SeenInOrderOfAge" ∈ j_nw := j_memN (j_c5 (i := 102) (by decide +kernel)) rfl
theorem mlX9_390 : Cond.methodLink RX9 390 yX9_countShelvesInUse ∈ j_gw := j_mem (j_c5 (i := 103) (by decide +kernel)) rfl
theorem im_X9_countShelvesInUse : Cond.instanceMethod yX9_countShelvesInUse ∈ j_gw := j_mem (j_c5 (i := 105) (by decide +kernel)) rfl
theorem cd_X9_countShelvesInUse : Cond.code yX9_countShelvesInUse cX9_countShelvesInUse 3 (some .int) ∈ j_gw := j_mem (j_c5 (i := 106) (by decide +kernel)) rfl
theorem mlX9_393 : Cond.methodLink RX9 393 yX9_refusalsOf ∈ j_gw := j_mem (j_c5 (i := 107) (by decide +kernel)) rfl
theorem im_X9_refusalsOf : Cond.instanceMethod yX9_refusalsOf ∈ j_gw := j_mem (j_c5 (i := 109) (by decide +kernel)) rfl
theorem cd_X9_refusalsOf : Cond.code yX9_refusalsOf cX9_refusalsOf 3 (some .int) ∈ j_gw := j_mem (j_c5 (i := 110) (by decide +kernel)) rfl
theorem clL_10 : Cond.classLink RL 10 RX10 ∈ j_gw := j_mem (j_c5 (i := 111) (by decide +kernel)) rfl
theorem in_X10 : Cond.instantiable RX10 33 ∈ j_gw := j_mem (j_c5 (i := 112) (by decide +kernel)) rfl
theorem mlL_12 : Cond.methodLink RL 12 yX10_init ∈ j_gw := j_mem (j_c5 (i := 113) (by decide +kernel)) rfl
theorem im_X10_init : Cond.instanceMethod yX10_init ∈ j_gw := j_mem (j_c5 (i := 114) (by decide +kernel)) rfl
theorem cd_X10_init : Cond.code yX10_init cX10_init 2 none ∈ j_gw := j_mem (j_c5 (i := 115) (by decide +kernel)) rfl
theorem mlX10_1 : Cond.methodLink RX10 1 objectInit ∈ j_gw := j_mem (j_c5 (i := 116) (by decide +kernel)) rfl
theorem flX10_9 : Cond.fieldLink RX10 9 "SeenInOrderOfAgeModel" "thing" "[I" ∈ j_gw := j_mem (j_c5 (i := 117) (by decide +kernel)) rfl
theorem flX10_89 : Cond.fieldLink RX10 89 "SeenInOrderOfAgeModel" "many" "I" ∈ j_gw := j_mem (j_c5 (i := 118) (by decide +kernel)) rfl
theorem flX10_13 : Cond.fieldLink RX10 13 "SeenInOrderOfAgeModel" "kind" "[I" ∈ j_gw := j_mem (j_c5 (i := 119) (by decide +kernel)) rfl
theorem flX10_16 : Cond.fieldLink RX10 16 "SeenInOrderOfAgeModel" "own" "[I" ∈ j_gw := j_mem (j_c5 (i := 120) (by decide +kernel)) rfl
theorem flX10_19 : Cond.fieldLink RX10 19 "SeenInOrderOfAgeModel" "age" "[I" ∈ j_gw := j_mem (j_c5 (i := 121) (by decide +kernel)) rfl
theorem flX10_22 : Cond.fieldLink RX10 22 "SeenInOrderOfAgeModel" "liked" "[I" ∈ j_gw := j_mem (j_c5 (i := 122) (by decide +kernel)) rfl
theorem flX10_25 : Cond.fieldLink RX10 25 "SeenInOrderOfAgeModel" "comes" "[I" ∈ j_gw := j_mem (j_c5 (i := 123) (by decide +kernel)) rfl
theorem flX10_28 : Cond.fieldLink RX10 28 "SeenInOrderOfAgeModel" "shine" "[I" ∈ j_gw := j_mem (j_c5 (i := 124) (by decide +kernel)) rfl
theorem flX10_31 : Cond.fieldLink RX10 31 "SeenInOrderOfAgeModel" "has" "[I" ∈ j_gw := j_mem (j_c5 (i := 125) (by decide +kernel)) rfl
theorem flX10_304 : Cond.fieldLink RX10 304 "SeenInOrderOfAgeModel" "evenings" "I" ∈ j_gw := j_mem (j_c5 (i := 126) (by decide +kernel)) rfl
theorem flX10_81 : Cond.fieldLink RX10 81 "SeenInOrderOfAgeModel" "seed" "I" ∈ j_gw := j_mem (j_c5 (i := 127) (by decide +kernel)) rfl
theorem flX10_131 : Cond.fieldLink RX10 131 "SeenInOrderOfAgeModel" "taped" "I" ∈ j_gw := j_mem (j_c5 (i := 128) (by decide +kernel)) rfl
theorem flX10_34 : Cond.fieldLink RX10 34 "SeenInOrderOfAgeModel" "tape" "[I" ∈ j_gw := j_mem (j_c5 (i := 129) (by decide +kernel)) rfl
theorem flX10_137 : Cond.fieldLink RX10 137 "SeenInOrderOfAgeModel" "from" "I" ∈ j_gw := j_mem (j_c5 (i := 130) (by decide +kernel)) rfl
theorem flX10_134 : Cond.fieldLink RX10 134 "SeenInOrderOfAgeModel" "to" "I" ∈ j_gw := j_mem (j_c5 (i := 131) (by decide +kernel)) rfl
theorem flX10_140 : Cond.fieldLink RX10 140 "SeenInOrderOfAgeModel" "token" "I" ∈ j_gw := j_mem (j_c5 (i := 132) (by decide +kernel)) rfl
theorem flX10_149 : Cond.fieldLink RX10 149 "SeenInOrderOfAgeModel" "value" "I" ∈ j_gw := j_mem (j_c5 (i := 133) (by decide +kernel)) rfl
theorem flX10_37 : Cond.fieldLink RX10 37 "SeenInOrderOfAgeModel" "holding" "[I" ∈ j_gw := j_mem (j_c5 (i := 134) (by decide +kernel)) rfl
theorem flX10_40 : Cond.fieldLink RX10 40 "SeenInOrderOfAgeModel" "rowLength" "[I" ∈ j_gw := j_mem (j_c5 (i := 135) (by decide +kernel)) rfl
theorem flX10_43 : Cond.fieldLink RX10 43 "SeenInOrderOfAgeModel" "rowOf" "[J" ∈ j_gw := j_mem (j_c5 (i := 136) (by decide +kernel)) rfl
theorem flX10_47 : Cond.fieldLink RX10 47 "SeenInOrderOfAgeModel" "refusals" "[I" ∈ j_gw := j_mem (j_c5 (i := 137) (by decide +kernel)) rfl
theorem flX10_317 : Cond.fieldLink RX10 317 "SeenInOrderOfAgeModel" "imaged" "Z" ∈ j_gw := j_mem (j_c5 (i := 138) (by decide +kernel)) rfl
theorem flX10_50 : Cond.fieldLink RX10 50 "SeenInOrderOfAgeModel" "old" "[I" ∈ j_gw := j_mem (j_c5 (i := 139) (by decide +kernel)) rfl
theorem flX10_53 : Cond.fieldLink RX10 53 "SeenInOrderOfAgeModel" "ahead" "[I" ∈ j_gw := j_mem (j_c5 (i := 140) (by decide +kernel)) rfl
theorem flX10_56 : Cond.fieldLink RX10 56 "SeenInOrderOfAgeModel" "there" "[I" ∈ j_gw := j_mem (j_c5 (i := 141) (by decide +kernel)) rfl
theorem flX10_219 : Cond.fieldLink RX10 219 "SeenInOrderOfAgeModel" "looks" "I" ∈ j_gw := j_mem (j_c5 (i := 142) (by decide +kernel)) rfl
theorem flX10_59 : Cond.fieldLink RX10 59 "SeenInOrderOfAgeModel" "order" "[I" ∈ j_gw := j_mem (j_c5 (i := 143) (by decide +kernel)) rfl
theorem flX10_62 : Cond.fieldLink RX10 62 "SeenInOrderOfAgeModel" "took" "[I" ∈ j_gw := j_mem (j_c5 (i := 144) (by decide +kernel)) rfl
theorem flX10_65 : Cond.fieldLink RX10 65 "SeenInOrderOfAgeModel" "firstOf" "[I" ∈ j_gw := j_mem (j_c5 (i := 145) (by decide +kernel)) rfl
theorem flX10_68 : Cond.fieldLink RX10 68 "SeenInOrderOfAgeModel" "wish" "[I" ∈ j_gw := j_mem (j_c5 (i := 146) (by decide +kernel)) rfl
theorem flX10_71 : Cond.fieldLink RX10 71 "SeenInOrderOfAgeModel" "out" "[Z" ∈ j_gw := j_mem (j_c5 (i := 147) (by decide +kernel)) rfl
theorem flX10_75 : Cond.fieldLink RX10 75 "SeenInOrderOfAgeModel" "gets" "[I" ∈ j_gw := j_mem (j_c5 (i := 148) (by decide +kernel)) rfl
theorem flX10_78 : Cond.fieldLink RX10 78 "SeenInOrderOfAgeModel" "more" "[I" ∈ j_gw := j_mem (j_c5 (i := 149) (by decide +kernel)) rfl
theorem ac_1177 : Cond.arrayClass FieldType.boolean ∈ j_gw := j_mem (j_c5 (i := 217) (by decide +kernel)) rfl
theorem mlL_17 : Cond.methodLink RL 17 yX10_row ∈ j_gw := j_mem (j_c5 (i := 218) (by decide +kernel)) rfl
theorem im_X10_row : Cond.instanceMethod yX10_row ∈ j_gw := j_mem (j_c5 (i := 219) (by decide +kernel)) rfl
theorem se_X10_row : Cond.selects RX10 yX10_row yX10_row ∈ j_gw := j_mem (j_c5 (i := 220) (by decide +kernel)) rfl
theorem cd_X10_row : Cond.code yX10_row cX10_row 5 (some .int) ∈ j_gw := j_mem (j_c5 (i := 221) (by decide +kernel)) rfl
theorem mlX10_92 : Cond.methodLink RX10 92 yX10_isShelf ∈ j_gw := j_mem (j_c5 (i := 222) (by decide +kernel)) rfl
theorem sm_X10_isShelf : Cond.static yX10_isShelf ∈ j_gw := j_mem (j_c5 (i := 223) (by decide +kernel)) rfl
theorem cd_X10_isShelf : Cond.code yX10_isShelf cX10_isShelf 1 (some .boolean) ∈ j_gw := j_mem (j_c5 (i := 224) (by decide +kernel)) rfl
theorem mlX10_85 : Cond.methodLink RX10 85 yX10_within ∈ j_gw := j_mem (j_c5 (i := 225) (by decide +kernel)) rfl
theorem sm_X10_within : Cond.static yX10_within ∈ j_gw := j_mem (j_c5 (i := 226) (by decide +kernel)) rfl
theorem cd_X10_within : Cond.code yX10_within cX10_within 3 (some .boolean) ∈ j_gw := j_mem (j_c5 (i := 227) (by decide +kernel)) rfl
theorem mlX10_96 : Cond.methodLink RX10 96 yX10_no ∈ j_gw := j_mem (j_c5 (i := 228) (by decide +kernel)) rfl
theorem im_X10_no : Cond.instanceMethod yX10_no ∈ j_gw := j_mem (j_c5 (i := 230) (by decide +kernel)) rfl
theorem cd_X10_no : Cond.code yX10_no cX10_no 2 (some .int) ∈ j_gw := j_mem (j_c5 (i := 231) (by decide +kernel)) rfl
theorem mlL_24 : Cond.methodLink RL 24 yX10_set ∈ j_gw := j_mem (j_c5 (i := 232) (by decide +kernel)) rfl
theorem im_X10_set : Cond.instanceMethod yX10_set ∈ j_gw := j_mem (j_c5 (i := 233) (by decide +kernel)) rfl
theorem se_X10_set : Cond.selects RX10 yX10_set yX10_set ∈ j_gw := j_mem (j_c5 (i := 234) (by decide +kernel)) rfl
theorem cd_X10_set : Cond.code yX10_set cX10_set 5 (some .int) ∈ j_gw := j_mem (j_c5 (i := 235) (by decide +kernel)) rfl
theorem mlX10_100 : Cond.methodLink RX10 100 yX10_isRow ∈ j_gw := j_mem (j_c5 (i := 236) (by decide +kernel)) rfl
theorem im_X10_isRow : Cond.instanceMethod yX10_isRow ∈ j_gw := j_mem (j_c5 (i := 238) (by decide +kernel)) rfl
theorem cd_X10_isRow : Cond.code yX10_isRow cX10_isRow 2 (some .boolean) ∈ j_gw := j_mem (j_c5 (i := 239) (by decide +kernel)) rfl
theorem mlX10_103 : Cond.methodLink RX10 103 yX10_noRow ∈ j_gw := j_mem (j_c6 (i := 0) (by decide +kernel)) rfl
theorem im_X10_noRow : Cond.instanceMethod yX10_noRow ∈ j_gw := j_mem (j_c6 (i := 2) (by decide +kernel)) rfl
theorem cd_X10_noRow : Cond.code yX10_noRow cX10_noRow 2 (some .int) ∈ j_gw := j_mem (j_c6 (i := 3) (by decide +kernel)) rfl
theorem mlX10_106 : Cond.methodLink RX10 106 yX10_kept ∈ j_gw := j_mem (j_c6 (i := 4) (by decide +kernel)) rfl
theorem sm_X10_kept : Cond.static yX10_kept ∈ j_gw := j_mem (j_c6 (i := 5) (by decide +kernel)) rfl
theorem cd_X10_kept : Cond.code yX10_kept cX10_kept 3 (some .long) ∈ j_gw := j_mem (j_c6 (i := 6) (by decide +kernel)) rfl
theorem mlL_29 : Cond.methodLink RL 29 yX10_copy ∈ j_gw := j_mem (j_c6 (i := 7) (by decide +kernel)) rfl
theorem im_X10_copy : Cond.instanceMethod yX10_copy ∈ j_gw := j_mem (j_c6 (i := 8) (by decide +kernel)) rfl
theorem se_X10_copy : Cond.selects RX10 yX10_copy yX10_copy ∈ j_gw := j_mem (j_c6 (i := 9) (by decide +kernel)) rfl
theorem cd_X10_copy : Cond.code yX10_copy cX10_copy 7 (some .int) ∈ j_gw := j_mem (j_c6 (i := 10) (by decide +kernel)) rfl
theorem mlL_34 : Cond.methodLink RL 34 yX10_element ∈ j_gw := j_mem (j_c6 (i := 11) (by decide +kernel)) rfl
theorem im_X10_element : Cond.instanceMethod yX10_element ∈ j_gw := j_mem (j_c6 (i := 12) (by decide +kernel)) rfl
theorem se_X10_element : Cond.selects RX10 yX10_element yX10_element ∈ j_gw := j_mem (j_c6 (i := 13) (by decide +kernel)) rfl
theorem cd_X10_element : Cond.code yX10_element cX10_element 3 (some .long) ∈ j_gw := j_mem (j_c6 (i := 14) (by decide +kernel)) rfl
theorem mlL_39 : Cond.methodLink RL 39 yX10_holds ∈ j_gw := j_mem (j_c6 (i := 15) (by decide +kernel)) rfl
theorem im_X10_holds : Cond.instanceMethod yX10_holds ∈ j_gw := j_mem (j_c6 (i := 16) (by decide +kernel)) rfl
theorem se_X10_holds : Cond.selects RX10 yX10_holds yX10_holds ∈ j_gw := j_mem (j_c6 (i := 17) (by decide +kernel)) rfl
theorem cd_X10_holds : Cond.code yX10_holds cX10_holds 2 (some .int) ∈ j_gw := j_mem (j_c6 (i := 18) (by decide +kernel)) rfl
theorem mlL_44 : Cond.methodLink RL 44 yX10_show ∈ j_gw := j_mem (j_c6 (i := 19) (by decide +kernel)) rfl
theorem im_X10_show : Cond.instanceMethod yX10_show ∈ j_gw := j_mem (j_c6 (i := 20) (by decide +kernel)) rfl
theorem se_X10_show : Cond.selects RX10 yX10_show yX10_show ∈ j_gw := j_mem (j_c6 (i := 21) (by decide +kernel)) rfl
theorem cd_X10_show : Cond.code yX10_show cX10_show 3 (some .int) ∈ j_gw := j_mem (j_c6 (i := 22) (by decide +kernel)) rfl
theorem mlX10_110 : Cond.methodLink RX10 110 yX10_isLooker ∈ j_gw := j_mem (j_c6 (i := 23) (by decide +kernel)) rfl
theorem im_X10_isLooker : Cond.instanceMethod yX10_isLooker ∈ j_gw := j_mem (j_c6 (i := 25) (by decide +kernel)) rfl
theorem cd_X10_isLooker : Cond.code yX10_isLooker cX10_isLooker 2 (some .boolean) ∈ j_gw := j_mem (j_c6 (i := 26) (by decide +kernel)) rfl
theorem mlL_48 : Cond.methodLink RL 48 yX10_says ∈ j_gw := j_mem (j_c6 (i := 27) (by decide +kernel)) rfl
theorem im_X10_says : Cond.instanceMethod yX10_says ∈ j_gw := j_mem (j_c6 (i := 28) (by decide +kernel)) rfl
theorem se_X10_says : Cond.selects RX10 yX10_says yX10_says ∈ j_gw := j_mem (j_c6 (i := 29) (by decide +kernel)) rfl
theorem cd_X10_says : Cond.code yX10_says cX10_says 4 (some .int) ∈ j_gw := j_mem (j_c6 (i := 30) (by decide +kernel)) rfl
theorem mlX10_113 : Cond.methodLink RX10 113 yX10_isUnder ∈ j_gw := j_mem (j_c6 (i := 31) (by decide +kernel)) rfl
theorem sm_X10_isUnder : Cond.static yX10_isUnder ∈ j_gw := j_mem (j_c6 (i := 32) (by decide +kernel)) rfl
theorem cd_X10_isUnder : Cond.code yX10_isUnder cX10_isUnder 2 (some .boolean) ∈ j_gw := j_mem (j_c6 (i := 33) (by decide +kernel)) rfl
theorem mlX10_117 : Cond.methodLink RX10 117 yX10_runs ∈ j_gw := j_mem (j_c6 (i := 34) (by decide +kernel)) rfl
theorem im_X10_runs : Cond.instanceMethod yX10_runs ∈ j_gw := j_mem (j_c6 (i := 36) (by decide +kernel)) rfl
theorem cd_X10_runs : Cond.code yX10_runs cX10_runs 3 none ∈ j_gw := j_mem (j_c6 (i := 37) (by decide +kernel)) rfl
theorem mlX10_225 : Cond.methodLink RX10 225 yX10_begins ∈ j_gw := j_mem (j_c6 (i := 38) (by decide +kernel)) rfl
theorem im_X10_begins : Cond.instanceMethod yX10_begins ∈ j_gw := j_mem (j_c6 (i := 40) (by decide +kernel)) rfl
theorem cd_X10_begins : Cond.code yX10_begins cX10_begins 3 none ∈ j_gw := j_mem (j_c6 (i := 41) (by decide +kernel)) rfl
theorem mlX10_222 : Cond.methodLink RX10 222 yX10_orders ∈ j_gw := j_mem (j_c6 (i := 42) (by decide +kernel)) rfl
theorem im_X10_orders : Cond.instanceMethod yX10_orders ∈ j_gw := j_mem (j_c6 (i := 44) (by decide +kernel)) rfl
theorem cd_X10_orders : Cond.code yX10_orders cX10_orders 4 none ∈ j_gw := j_mem (j_c6 (i := 45) (by decide +kernel)) rfl
theorem mlX10_194 : Cond.methodLink RX10 194 yX10_in ∈ j_gw := j_mem (j_c6 (i := 46) (by decide +kernel)) rfl
theorem sm_X10_in : Cond.static yX10_in ∈ j_gw := j_mem (j_c6 (i := 47) (by decide +kernel)) rfl
theorem cd_X10_in : Cond.code yX10_in cX10_in 2 (some .boolean) ∈ j_gw := j_mem (j_c6 (i := 48) (by decide +kernel)) rfl
theorem mlX10_228 : Cond.methodLink RX10 228 yX10_lookerGoes ∈ j_gw := j_mem (j_c6 (i := 49) (by decide +kernel)) rfl
theorem im_X10_lookerGoes : Cond.instanceMethod yX10_lookerGoes ∈ j_gw := j_mem (j_c6 (i := 51) (by decide +kernel)) rfl
theorem cd_X10_lookerGoes : Cond.code yX10_lookerGoes cX10_lookerGoes 3 none ∈ j_gw := j_mem (j_c6 (i := 52) (by decide +kernel)) rfl
theorem mlX10_206 : Cond.methodLink RX10 206 yX10_lastLiked ∈ j_gw := j_mem (j_c6 (i := 53) (by decide +kernel)) rfl
theorem im_X10_lastLiked : Cond.instanceMethod yX10_lastLiked ∈ j_gw := j_mem (j_c6 (i := 55) (by decide +kernel)) rfl
theorem cd_X10_lastLiked : Cond.code yX10_lastLiked cX10_lastLiked 4 (some .int) ∈ j_gw := j_mem (j_c6 (i := 56) (by decide +kernel)) rfl
theorem mlX10_200 : Cond.methodLink RX10 200 yX10_doesLike ∈ j_gw := j_mem (j_c6 (i := 57) (by decide +kernel)) rfl
theorem im_X10_doesLike : Cond.instanceMethod yX10_doesLike ∈ j_gw := j_mem (j_c6 (i := 59) (by decide +kernel)) rfl
theorem cd_X10_doesLike : Cond.code yX10_doesLike cX10_doesLike 3 (some .boolean) ∈ j_gw := j_mem (j_c6 (i := 60) (by decide +kernel)) rfl
theorem mlX10_209 : Cond.methodLink RX10 209 yX10_takes ∈ j_gw := j_mem (j_c6 (i := 61) (by decide +kernel)) rfl
theorem im_X10_takes : Cond.instanceMethod yX10_takes ∈ j_gw := j_mem (j_c6 (i := 63) (by decide +kernel)) rfl
theorem cd_X10_takes : Cond.code yX10_takes cX10_takes 3 none ∈ j_gw := j_mem (j_c6 (i := 64) (by decide +kernel)) rfl
theorem mlX10_197 : Cond.methodLink RX10 197 yX10_firstWith ∈ j_gw := j_mem (j_c6 (i := 65) (by decide +kernel)) rfl
theorem im_X10_firstWith : Cond.instanceMethod yX10_firstWith ∈ j_gw := j_mem (j_c6 (i := 67) (by decide +kernel)) rfl
theorem cd_X10_firstWith : Cond.code yX10_firstWith cX10_firstWith 3 (some .int) ∈ j_gw := j_mem (j_c6 (i := 68) (by decide +kernel)) rfl
theorem mlX10_213 : Cond.methodLink RX10 213 yX10_look ∈ j_gw := j_mem (j_c6 (i := 69) (by decide +kernel)) rfl
theorem im_X10_look : Cond.instanceMethod yX10_look ∈ j_gw := j_mem (j_c6 (i := 71) (by decide +kernel)) rfl
theorem cd_X10_look : Cond.code yX10_look cX10_look 4 (some .int) ∈ j_gw := j_mem (j_c6 (i := 72) (by decide +kernel)) rfl
theorem mlX10_203 : Cond.methodLink RX10 203 yX10_manyOf ∈ j_gw := j_mem (j_c6 (i := 73) (by decide +kernel)) rfl
theorem im_X10_manyOf : Cond.instanceMethod yX10_manyOf ∈ j_gw := j_mem (j_c6 (i := 75) (by decide +kernel)) rfl
theorem cd_X10_manyOf : Cond.code yX10_manyOf cX10_manyOf 4 (some .int) ∈ j_gw := j_mem (j_c6 (i := 76) (by decide +kernel)) rfl
theorem mlX10_216 : Cond.methodLink RX10 216 yX10_shyest ∈ j_gw := j_mem (j_c6 (i := 77) (by decide +kernel)) rfl
theorem im_X10_shyest : Cond.instanceMethod yX10_shyest ∈ j_gw := j_mem (j_c6 (i := 79) (by decide +kernel)) rfl
theorem cd_X10_shyest : Cond.code yX10_shyest cX10_shyest 5 (some .int) ∈ j_gw := j_mem (j_c6 (i := 80) (by decide +kernel)) rfl
theorem mlL_52 : Cond.methodLink RL 52 yX10_place ∈ j_gw := j_mem (j_c6 (i := 81) (by decide +kernel)) rfl
theorem im_X10_place : Cond.instanceMethod yX10_place ∈ j_gw := j_mem (j_c6 (i := 82) (by decide +kernel)) rfl
theorem se_X10_place : Cond.selects RX10 yX10_place yX10_place ∈ j_gw := j_mem (j_c6 (i := 83) (by decide +kernel)) rfl
theorem cd_X10_place : Cond.code yX10_place cX10_place 4 (some .int) ∈ j_gw := j_mem (j_c6 (i := 84) (by decide +kernel)) rfl
theorem mlX10_121 : Cond.methodLink RX10 121 yX10_isPlace ∈ j_gw := j_mem (j_c6 (i := 85) (by decide +kernel)) rfl
theorem sm_X10_isPlace : Cond.static yX10_isPlace ∈ j_gw := j_mem (j_c6 (i := 86) (by decide +kernel)) rfl
theorem cd_X10_isPlace : Cond.code yX10_isPlace cX10_isPlace 1 (some .boolean) ∈ j_gw := j_mem (j_c6 (i := 87) (by decide +kernel)) rfl
theorem mlL_56 : Cond.methodLink RL 56 yX10_looker ∈ j_gw := j_mem (j_c6 (i := 88) (by decide +kernel)) rfl
theorem im_X10_looker : Cond.instanceMethod yX10_looker ∈ j_gw := j_mem (j_c6 (i := 89) (by decide +kernel)) rfl
theorem se_X10_looker : Cond.selects RX10 yX10_looker yX10_looker ∈ j_gw := j_mem (j_c6 (i := 90) (by decide +kernel)) rfl
theorem cd_X10_looker : Cond.code yX10_looker cX10_looker 4 (some .int) ∈ j_gw := j_mem (j_c6 (i := 91) (by decide +kernel)) rfl
theorem mlX10_124 : Cond.methodLink RX10 124 yX10_isSort ∈ j_gw := j_mem (j_c6 (i := 92) (by decide +kernel)) rfl
theorem sm_X10_isSort : Cond.static yX10_isSort ∈ j_gw := j_mem (j_c6 (i := 93) (by decide +kernel)) rfl
theorem cd_X10_isSort : Cond.code yX10_isSort cX10_isSort 1 (some .boolean) ∈ j_gw := j_mem (j_c6 (i := 94) (by decide +kernel)) rfl
theorem mlX10_127 : Cond.methodLink RX10 127 yX10_newLooker ∈ j_gw := j_mem (j_c6 (i := 95) (by decide +kernel)) rfl
theorem im_X10_newLooker : Cond.instanceMethod yX10_newLooker ∈ j_gw := j_mem (j_c6 (i := 97) (by decide +kernel)) rfl
theorem cd_X10_newLooker : Cond.code yX10_newLooker cX10_newLooker 5 (some .int) ∈ j_gw := j_mem (j_c6 (i := 98) (by decide +kernel)) rfl
theorem mlL_61 : Cond.methodLink RL 61 yX10_likes ∈ j_gw := j_mem (j_c6 (i := 99) (by decide +kernel)) rfl
theorem im_X10_likes : Cond.instanceMethod yX10_likes ∈ j_gw := j_mem (j_c6 (i := 100) (by decide +kernel)) rfl
theorem se_X10_likes : Cond.selects RX10 yX10_likes yX10_likes ∈ j_gw := j_mem (j_c6 (i := 101) (by decide +kernel)) rfl
theorem cd_X10_likes : Cond.code yX10_likes cX10_likes 5 (some .int) ∈ j_gw := j_mem (j_c6 (i := 102) (by decide +kernel)) rfl
theorem mlL_65 : Cond.methodLink RL 65 yX10_tell ∈ j_gw := j_mem (j_c6 (i := 103) (by decide +kernel)) rfl
theorem im_X10_tell : Cond.instanceMethod yX10_tell ∈ j_gw := j_mem (j_c6 (i := 104) (by decide +kernel)) rfl
theorem se_X10_tell : Cond.selects RX10 yX10_tell yX10_tell ∈ j_gw := j_mem (j_c6 (i := 105) (by decide +kernel)) rfl
theorem cd_X10_tell : Cond.code yX10_tell cX10_tell 5 (some .int) ∈ j_gw := j_mem (j_c6 (i := 106) (by decide +kernel)) rfl
theorem mlL_69 : Cond.methodLink RL 69 yX10_feed ∈ j_gw := j_mem (j_c6 (i := 107) (by decide +kernel)) rfl
theorem im_X10_feed : Cond.instanceMethod yX10_feed ∈ j_gw := j_mem (j_c6 (i := 108) (by decide +kernel)) rfl
theorem se_X10_feed : Cond.selects RX10 yX10_feed yX10_feed ∈ j_gw := j_mem (j_c6 (i := 109) (by decide +kernel)) rfl
theorem cd_X10_feed : Cond.code yX10_feed cX10_feed 2 (some .int) ∈ j_gw := j_mem (j_c6 (i := 110) (by decide +kernel)) rfl
theorem mlL_74 : Cond.methodLink RL 74 yX10_wipe ∈ j_gw := j_mem (j_c6 (i := 111) (by decide +kernel)) rfl
theorem im_X10_wipe : Cond.instanceMethod yX10_wipe ∈ j_gw := j_mem (j_c6 (i := 112) (by decide +kernel)) rfl
theorem se_X10_wipe : Cond.selects RX10 yX10_wipe yX10_wipe ∈ j_gw := j_mem (j_c6 (i := 113) (by decide +kernel)) rfl
theorem cd_X10_wipe : Cond.code yX10_wipe cX10_wipe 2 (some .int) ∈ j_gw := j_mem (j_c6 (i := 114) (by decide +kernel)) rfl
theorem mlL_78 : Cond.methodLink RL 78 yX10_window ∈ j_gw := j_mem (j_c6 (i := 115) (by decide +kernel)) rfl
theorem im_X10_window : Cond.instanceMethod yX10_window ∈ j_gw := j_mem (j_c6 (i := 116) (by decide +kernel)) rfl
theorem se_X10_window : Cond.selects RX10 yX10_window yX10_window ∈ j_gw := j_mem (j_c6 (i := 117) (by decide +kernel)) rfl
theorem cd_X10_window : Cond.code yX10_window cX10_window 3 (some .int) ∈ j_gw := j_mem (j_c6 (i := 118) (by decide +kernel)) rfl
theorem mlX10_183 : Cond.methodLink RX10 183 yX10_keep ∈ j_gw := j_mem (j_c6 (i := 119) (by decide +kernel)) rfl
theorem im_X10_keep : Cond.instanceMethod yX10_keep ∈ j_gw := j_mem (j_c6 (i := 121) (by decide +kernel)) rfl
theorem cd_X10_keep : Cond.code yX10_keep cX10_keep 3 none ∈ j_gw := j_mem (j_c6 (i := 122) (by decide +kernel)) rfl
theorem mlX10_162 : Cond.methodLink RX10 162 yX10_next ∈ j_gw := j_mem (j_c6 (i := 123) (by decide +kernel)) rfl
theorem im_X10_next : Cond.instanceMethod yX10_next ∈ j_gw := j_mem (j_c6 (i := 125) (by decide +kernel)) rfl
theorem cd_X10_next : Cond.code yX10_next cX10_next 2 none ∈ j_gw := j_mem (j_c6 (i := 126) (by decide +kernel)) rfl
theorem mlX10_143 : Cond.methodLink RX10 143 yX10_isLetter ∈ j_gw := j_mem (j_c6 (i := 127) (by decide +kernel)) rfl
theorem sm_X10_isLetter : Cond.static yX10_isLetter ∈ j_gw := j_mem (j_c6 (i := 128) (by decide +kernel)) rfl
theorem cd_X10_isLetter : Cond.code yX10_isLetter cX10_isLetter 1 (some .boolean) ∈ j_gw := j_mem (j_c6 (i := 129) (by decide +kernel)) rfl
theorem mlX10_146 : Cond.methodLink RX10 146 yX10_isDigit ∈ j_gw := j_mem (j_c6 (i := 130) (by decide +kernel)) rfl
theorem sm_X10_isDigit : Cond.static yX10_isDigit ∈ j_gw := j_mem (j_c6 (i := 131) (by decide +kernel)) rfl
theorem cd_X10_isDigit : Cond.code yX10_isDigit cX10_isDigit 1 (some .boolean) ∈ j_gw := j_mem (j_c6 (i := 132) (by decide +kernel)) rfl
theorem mlX10_187 : Cond.methodLink RX10 187 yX10_statement ∈ j_gw := j_mem (j_c6 (i := 133) (by decide +kernel)) rfl
theorem im_X10_statement : Cond.instanceMethod yX10_statement ∈ j_gw := j_mem (j_c6 (i := 135) (by decide +kernel)) rfl
theorem cd_X10_statement : Cond.code yX10_statement cX10_statement 4 (some .boolean) ∈ j_gw := j_mem (j_c6 (i := 136) (by decide +kernel)) rfl
theorem srX10_165 : Cond.stringRef RX10 165 "place" ∈ lw_tbl := j_c6 (i := 137) (by decide +kernel)
theorem mlX10_167 : Cond.methodLink RX10 167 yX10_isWord ∈ j_gw := j_mem (j_c6 (i := 138) (by decide +kernel)) rfl
theorem im_X10_isWord : Cond.instanceMethod yX10_isWord ∈ j_gw := j_mem (j_c6 (i := 140) (by decide +kernel)) rfl
theorem cd_X10_isWord : Cond.code yX10_isWord cX10_isWord 3 (some .boolean) ∈ j_gw := j_mem (j_c6 (i := 141) (by decide +kernel)) rfl
theorem mlX10_152 : Cond.methodLink RX10 152 yJ0_length_8abf5 ∈ j_gw := j_mem (j_c6 (i := 142) (by decide +kernel)) rfl
theorem mlX10_158 : Cond.methodLink RX10 158 yJ0_charAt_5068e ∈ j_gw := j_mem (j_c6 (i := 143) (by decide +kernel)) rfl
theorem mlX10_171 : Cond.methodLink RX10 171 yX10_number ∈ j_gw := j_mem (j_c6 (i := 144) (by decide +kernel)) rfl
theorem im_X10_number : Cond.instanceMethod yX10_number ∈ j_gw := j_mem (j_c6 (i := 146) (by decide +kernel)) rfl
theorem cd_X10_number : Cond.code yX10_number cX10_number 3 (some .int) ∈ j_gw := j_mem (j_c6 (i := 147) (by decide +kernel)) rfl
theorem srX10_175 : Cond.stringRef RX10 175 "clear" ∈ lw_tbl := j_c6 (i := 148) (by decide +kernel)
theorem srX10_177 : Cond.stringRef RX10 177 "looker" ∈ lw_tbl := j_c6 (i := 149) (by decide +kernel)
theorem srX10_179 : Cond.stringRef RX10 179 "likes" ∈ lw_tbl := j_c6 (i := 150) (by decide +kernel)
theorem srX10_181 : Cond.stringRef RX10 181 "comes" ∈ lw_tbl := j_c6 (i := 151) (by decide +kernel)
theorem srX10_182 : Cond.stringRef RX10 182 "shine" ∈ lw_tbl := j_c6 (i := 152) (by decide +kernel)
theorem mlX10_191 : Cond.methodLink RX10 191 yX10_again ∈ j_gw := j_mem (j_c6 (i := 153) (by decide +kernel)) rfl
theorem im_X10_again : Cond.instanceMethod yX10_again ∈ j_gw := j_mem (j_c6 (i := 155) (by decide +kernel)) rfl
theorem cd_X10_again : Cond.code yX10_again cX10_again 3 none ∈ j_gw := j_mem (j_c6 (i := 156) (by decide +kernel)) rfl
theorem mlL_82 : Cond.methodLink RL 82 yX10_sortAt ∈ j_gw := j_mem (j_c6 (i := 157) (by decide +kernel)) rfl
theorem im_X10_sortAt : Cond.instanceMethod yX10_sortAt ∈ j_gw := j_mem (j_c6 (i := 158) (by decide +kernel)) rfl
theorem se_X10_sortAt : Cond.selects RX10 yX10_sortAt yX10_sortAt ∈ j_gw := j_mem (j_c6 (i := 159) (by decide +kernel)) rfl
theorem cd_X10_sortAt : Cond.code yX10_sortAt cX10_sortAt 2 (some .int) ∈ j_gw := j_mem (j_c6 (i := 160) (by decide +kernel)) rfl
theorem mlL_86 : Cond.methodLink RL 86 yX10_lookerOf ∈ j_gw := j_mem (j_c6 (i := 161) (by decide +kernel)) rfl
theorem im_X10_lookerOf : Cond.instanceMethod yX10_lookerOf ∈ j_gw := j_mem (j_c6 (i := 162) (by decide +kernel)) rfl
theorem se_X10_lookerOf : Cond.selects RX10 yX10_lookerOf yX10_lookerOf ∈ j_gw := j_mem (j_c6 (i := 163) (by decide +kernel)) rfl
theorem cd_X10_lookerOf : Cond.code yX10_lookerOf cX10_lookerOf 3 (some .int) ∈ j_gw := j_mem (j_c6 (i := 164) (by decide +kernel)) rfl
theorem mlL_90 : Cond.methodLink RL 90 yX10_left ∈ j_gw := j_mem (j_c6 (i := 165) (by decide +kernel)) rfl
theorem im_X10_left : Cond.instanceMethod yX10_left ∈ j_gw := j_mem (j_c6 (i := 166) (by decide +kernel)) rfl
theorem se_X10_left : Cond.selects RX10 yX10_left yX10_left ∈ j_gw := j_mem (j_c6 (i := 167) (by decide +kernel)) rfl
theorem cd_X10_left : Cond.code yX10_left cX10_left 2 (some .int) ∈ j_gw := j_mem (j_c6 (i := 168) (by decide +kernel)) rfl
theorem mlX10_234 : Cond.methodLink RX10 234 yX10_isSet ∈ j_gw := j_mem (j_c6 (i := 169) (by decide +kernel)) rfl
theorem im_X10_isSet : Cond.instanceMethod yX10_isSet ∈ j_gw := j_mem (j_c6 (i := 171) (by decide +kernel)) rfl
theorem cd_X10_isSet : Cond.code yX10_isSet cX10_isSet 2 (some .boolean) ∈ j_gw := j_mem (j_c6 (i := 172) (by decide +kernel)) rfl
theorem mlX10_237 : Cond.methodLink RX10 237 yX10_leftThen ∈ j_gw := j_mem (j_c6 (i := 173) (by decide +kernel)) rfl
theorem im_X10_leftThen : Cond.instanceMethod yX10_leftThen ∈ j_gw := j_mem (j_c6 (i := 175) (by decide +kernel)) rfl
theorem cd_X10_leftThen : Cond.code yX10_leftThen cX10_leftThen 3 (some .int) ∈ j_gw := j_mem (j_c6 (i := 176) (by decide +kernel)) rfl
theorem mlL_94 : Cond.methodLink RL 94 yX10_taken ∈ j_gw := j_mem (j_c6 (i := 177) (by decide +kernel)) rfl
theorem im_X10_taken : Cond.instanceMethod yX10_taken ∈ j_gw := j_mem (j_c6 (i := 178) (by decide +kernel)) rfl
theorem se_X10_taken : Cond.selects RX10 yX10_taken yX10_taken ∈ j_gw := j_mem (j_c6 (i := 179) (by decide +kernel)) rfl
theorem cd_X10_taken : Cond.code yX10_taken cX10_taken 3 (some .int) ∈ j_gw := j_mem (j_c6 (i := 180) (by decide +kernel)) rfl
theorem mlL_98 : Cond.methodLink RL 98 yX10_glad ∈ j_gw := j_mem (j_c6 (i := 181) (by decide +kernel)) rfl
theorem im_X10_glad : Cond.instanceMethod yX10_glad ∈ j_gw := j_mem (j_c6 (i := 182) (by decide +kernel)) rfl
theorem se_X10_glad : Cond.selects RX10 yX10_glad yX10_glad ∈ j_gw := j_mem (j_c6 (i := 183) (by decide +kernel)) rfl
theorem cd_X10_glad : Cond.code yX10_glad cX10_glad 6 (some .int) ∈ j_gw := j_mem (j_c6 (i := 184) (by decide +kernel)) rfl
theorem mlX10_240 : Cond.methodLink RX10 240 yX10_gladOf ∈ j_gw := j_mem (j_c6 (i := 185) (by decide +kernel)) rfl
theorem im_X10_gladOf : Cond.instanceMethod yX10_gladOf ∈ j_gw := j_mem (j_c6 (i := 187) (by decide +kernel)) rfl
theorem cd_X10_gladOf : Cond.code yX10_gladOf cX10_gladOf 4 (some .int) ∈ j_gw := j_mem (j_c6 (i := 188) (by decide +kernel)) rfl
theorem mlX10_231 : Cond.methodLink RX10 231 yX10_isGlad ∈ j_gw := j_mem (j_c6 (i := 189) (by decide +kernel)) rfl
theorem im_X10_isGlad : Cond.instanceMethod yX10_isGlad ∈ j_gw := j_mem (j_c6 (i := 191) (by decide +kernel)) rfl
theorem cd_X10_isGlad : Cond.code yX10_isGlad cX10_isGlad 3 (some .boolean) ∈ j_gw := j_mem (j_c6 (i := 192) (by decide +kernel)) rfl
theorem mlL_102 : Cond.methodLink RL 102 yX10_order ∈ j_gw := j_mem (j_c6 (i := 193) (by decide +kernel)) rfl
theorem im_X10_order : Cond.instanceMethod yX10_order ∈ j_gw := j_mem (j_c6 (i := 194) (by decide +kernel)) rfl
theorem se_X10_order : Cond.selects RX10 yX10_order yX10_order ∈ j_gw := j_mem (j_c6 (i := 195) (by decide +kernel)) rfl
theorem cd_X10_order : Cond.code yX10_order cX10_order 3 (some .int) ∈ j_gw := j_mem (j_c6 (i := 196) (by decide +kernel)) rfl
theorem mlX10_243 : Cond.methodLink RX10 243 yJ6_bitCount_0f7a4 ∈ j_gw := j_mem (j_c6 (i := 197) (by decide +kernel)) rfl
theorem mlL_106 : Cond.methodLink RL 106 yX10_away ∈ j_gw := j_mem (j_c6 (i := 198) (by decide +kernel)) rfl
theorem im_X10_away : Cond.instanceMethod yX10_away ∈ j_gw := j_mem (j_c6 (i := 199) (by decide +kernel)) rfl
theorem se_X10_away : Cond.selects RX10 yX10_away yX10_away ∈ j_gw := j_mem (j_c6 (i := 200) (by decide +kernel)) rfl
theorem cd_X10_away : Cond.code yX10_away cX10_away 6 (some .int) ∈ j_gw := j_mem (j_c6 (i := 201) (by decide +kernel)) rfl
theorem mlL_110 : Cond.methodLink RL 110 yX10_crowd ∈ j_gw := j_mem (j_c6 (i := 202) (by decide +kernel)) rfl
theorem im_X10_crowd : Cond.instanceMethod yX10_crowd ∈ j_gw := j_mem (j_c6 (i := 203) (by decide +kernel)) rfl
theorem se_X10_crowd : Cond.selects RX10 yX10_crowd yX10_crowd ∈ j_gw := j_mem (j_c6 (i := 204) (by decide +kernel)) rfl
theorem cd_X10_crowd : Cond.code yX10_crowd cX10_crowd 7 (some .int) ∈ j_gw := j_mem (j_c6 (i := 205) (by decide +kernel)) rfl
theorem mlL_114 : Cond.methodLink RL 114 yX10_setOut ∈ j_gw := j_mem (j_c6 (i := 206) (by decide +kernel)) rfl
theorem im_X10_setOut : Cond.instanceMethod yX10_setOut ∈ j_gw := j_mem (j_c6 (i := 207) (by decide +kernel)) rfl
theorem se_X10_setOut : Cond.selects RX10 yX10_setOut yX10_setOut ∈ j_gw := j_mem (j_c6 (i := 208) (by decide +kernel)) rfl
theorem cd_X10_setOut : Cond.code yX10_setOut cX10_setOut 5 (some .int) ∈ j_gw := j_mem (j_c6 (i := 209) (by decide +kernel)) rfl
theorem mlX10_248 : Cond.methodLink RX10 248 yX10_putsOut ∈ j_gw := j_mem (j_c6 (i := 210) (by decide +kernel)) rfl
theorem im_X10_putsOut : Cond.instanceMethod yX10_putsOut ∈ j_gw := j_mem (j_c6 (i := 212) (by decide +kernel)) rfl
theorem cd_X10_putsOut : Cond.code yX10_putsOut cX10_putsOut 8 (some .boolean) ∈ j_gw := j_mem (j_c6 (i := 213) (by decide +kernel)) rfl
theorem mlL_118 : Cond.methodLink RL 118 yX10_who ∈ j_gw := j_mem (j_c6 (i := 214) (by decide +kernel)) rfl
theorem im_X10_who : Cond.instanceMethod yX10_who ∈ j_gw := j_mem (j_c6 (i := 215) (by decide +kernel)) rfl
theorem se_X10_who : Cond.selects RX10 yX10_who yX10_who ∈ j_gw := j_mem (j_c6 (i := 216) (by decide +kernel)) rfl
theorem cd_X10_who : Cond.code yX10_who cX10_who 8 (some .int) ∈ j_gw := j_mem (j_c6 (i := 217) (by decide +kernel)) rfl
theorem mlX10_252 : Cond.methodLink RX10 252 yX10_arePlaces ∈ j_gw := j_mem (j_c6 (i := 218) (by decide +kernel)) rfl
theorem sm_X10_arePlaces : Cond.static yX10_arePlaces ∈ j_gw := j_mem (j_c6 (i := 219) (by decide +kernel)) rfl
theorem cd_X10_arePlaces : Cond.code yX10_arePlaces cX10_arePlaces 1 (some .boolean) ∈ j_gw := j_mem (j_c6 (i := 220) (by decide +kernel)) rfl
theorem mlL_123 : Cond.methodLink RL 123 yX10_kinds ∈ j_gw := j_mem (j_c6 (i := 221) (by decide +kernel)) rfl
theorem im_X10_kinds : Cond.instanceMethod yX10_kinds ∈ j_gw := j_mem (j_c6 (i := 222) (by decide +kernel)) rfl
theorem se_X10_kinds : Cond.selects RX10 yX10_kinds yX10_kinds ∈ j_gw := j_mem (j_c6 (i := 223) (by decide +kernel)) rfl
theorem cd_X10_kinds : Cond.code yX10_kinds cX10_kinds 9 (some .int) ∈ j_gw := j_mem (j_c6 (i := 224) (by decide +kernel)) rfl
theorem mlL_127 : Cond.methodLink RL 127 yX10_odds ∈ j_gw := j_mem (j_c6 (i := 225) (by decide +kernel)) rfl
theorem im_X10_odds : Cond.instanceMethod yX10_odds ∈ j_gw := j_mem (j_c6 (i := 226) (by decide +kernel)) rfl
theorem se_X10_odds : Cond.selects RX10 yX10_odds yX10_odds ∈ j_gw := j_mem (j_c6 (i := 227) (by decide +kernel)) rfl
theorem cd_X10_odds : Cond.code yX10_odds cX10_odds 5 (some .int) ∈ j_gw := j_mem (j_c6 (i := 228) (by decide +kernel)) rfl
theorem mlX10_257 : Cond.methodLink RX10 257 yX10_waysOf ∈ j_gw := j_mem (j_c6 (i := 229) (by decide +kernel)) rfl
theorem im_X10_waysOf : Cond.instanceMethod yX10_waysOf ∈ j_gw := j_mem (j_c6 (i := 231) (by decide +kernel)) rfl
theorem cd_X10_waysOf : Cond.code yX10_waysOf cX10_waysOf 6 (some .long) ∈ j_gw := j_mem (j_c6 (i := 232) (by decide +kernel)) rfl
theorem kcX10_261 : Cond.constantLong RX10 261 (1000000) ∈ j_gw := j_mem (j_c6 (i := 233) (by decide +kernel)) rfl
theorem mlX10_263 : Cond.methodLink RX10 263 yX10_allWays ∈ j_gw := j_mem (j_c6 (i := 234) (by decide +kernel)) rfl
theorem im_X10_allWays : Cond.instanceMethod yX10_allWays ∈ j_gw := j_mem (j_c6 (i := 236) (by decide +kernel)) rfl
theorem cd_X10_allWays : Cond.code yX10_allWays cX10_allWays 5 (some .long) ∈ j_gw := j_mem (j_c6 (i := 237) (by decide +kernel)) rfl
theorem kcX10_255 : Cond.constantLong RX10 255 (12) ∈ j_gw := j_mem (j_c6 (i := 238) (by decide +kernel)) rfl
theorem mlL_131 : Cond.methodLink RL 131 yX10_likely ∈ j_gw := j_mem (j_c6 (i := 239) (by decide +kernel)) rfl
theorem im_X10_likely : Cond.instanceMethod yX10_likely ∈ j_gw := j_mem (j_c7 (i := 0) (by decide +kernel)) rfl
theorem se_X10_likely : Cond.selects RX10 yX10_likely yX10_likely ∈ j_gw := j_mem (j_c7 (i := 1) (by decide +kernel)) rfl
theorem cd_X10_likely : Cond.code yX10_likely cX10_likely 5 (some .int) ∈ j_gw := j_mem (j_c7 (i := 2) (by decide +kernel)) rfl
theorem mlL_135 : Cond.methodLink RL 135 yX10_gladOdds ∈ j_gw := j_mem (j_c7 (i := 3) (by decide +kernel)) rfl
theorem im_X10_gladOdds : Cond.instanceMethod yX10_gladOdds ∈ j_gw := j_mem (j_c7 (i := 4) (by decide +kernel)) rfl
theorem se_X10_gladOdds : Cond.selects RX10 yX10_gladOdds yX10_gladOdds ∈ j_gw := j_mem (j_c7 (i := 5) (by decide +kernel)) rfl
theorem cd_X10_gladOdds : Cond.code yX10_gladOdds cX10_gladOdds 5 (some .int) ∈ j_gw := j_mem (j_c7 (i := 6) (by decide +kernel)) rfl
theorem mlL_139 : Cond.methodLink RL 139 yX10_meanLeft ∈ j_gw := j_mem (j_c7 (i := 7) (by decide +kernel)) rfl
theorem im_X10_meanLeft : Cond.instanceMethod yX10_meanLeft ∈ j_gw := j_mem (j_c7 (i := 8) (by decide +kernel)) rfl
theorem se_X10_meanLeft : Cond.selects RX10 yX10_meanLeft yX10_meanLeft ∈ j_gw := j_mem (j_c7 (i := 9) (by decide +kernel)) rfl
theorem cd_X10_meanLeft : Cond.code yX10_meanLeft cX10_meanLeft 4 (some .int) ∈ j_gw := j_mem (j_c7 (i := 10) (by decide +kernel)) rfl
theorem kcX10_267 : Cond.constantLong RX10 267 (1000) ∈ j_gw := j_mem (j_c7 (i := 11) (by decide +kernel)) rfl
theorem mlL_163 : Cond.methodLink RL 163 yX10_empty ∈ j_gw := j_mem (j_c7 (i := 12) (by decide +kernel)) rfl
theorem im_X10_empty : Cond.instanceMethod yX10_empty ∈ j_gw := j_mem (j_c7 (i := 13) (by decide +kernel)) rfl
theorem se_X10_empty : Cond.selects RX10 yX10_empty yX10_empty ∈ j_gw := j_mem (j_c7 (i := 14) (by decide +kernel)) rfl
theorem cd_X10_empty : Cond.code yX10_empty cX10_empty 4 (some .int) ∈ j_gw := j_mem (j_c7 (i := 15) (by decide +kernel)) rfl
theorem mlL_167 : Cond.methodLink RL 167 yX10_without ∈ j_gw := j_mem (j_c7 (i := 16) (by decide +kernel)) rfl
theorem im_X10_without : Cond.instanceMethod yX10_without ∈ j_gw := j_mem (j_c7 (i := 17) (by decide +kernel)) rfl
theorem se_X10_without : Cond.selects RX10 yX10_without yX10_without ∈ j_gw := j_mem (j_c7 (i := 18) (by decide +kernel)) rfl
theorem cd_X10_without : Cond.code yX10_without cX10_without 2 (some .int) ∈ j_gw := j_mem (j_c7 (i := 19) (by decide +kernel)) rfl
theorem mlL_171 : Cond.methodLink RL 171 yX10_exchanged ∈ j_gw := j_mem (j_c7 (i := 20) (by decide +kernel)) rfl
theorem im_X10_exchanged : Cond.instanceMethod yX10_exchanged ∈ j_gw := j_mem (j_c7 (i := 21) (by decide +kernel)) rfl
theorem se_X10_exchanged : Cond.selects RX10 yX10_exchanged yX10_exchanged ∈ j_gw := j_mem (j_c7 (i := 22) (by decide +kernel)) rfl
theorem cd_X10_exchanged : Cond.code yX10_exchanged cX10_exchanged 3 (some .int) ∈ j_gw := j_mem (j_c7 (i := 23) (by decide +kernel)) rfl
theorem mlX10_269 : Cond.methodLink RX10 269 yX10_exchanges ∈ j_gw := j_mem (j_c7 (i := 24) (by decide +kernel)) rfl
theorem im_X10_exchanges : Cond.instanceMethod yX10_exchanges ∈ j_gw := j_mem (j_c7 (i := 26) (by decide +kernel)) rfl
theorem cd_X10_exchanges : Cond.code yX10_exchanges cX10_exchanges 5 (some .int) ∈ j_gw := j_mem (j_c7 (i := 27) (by decide +kernel)) rfl
theorem mlL_175 : Cond.methodLink RL 175 yX10_bestPair ∈ j_gw := j_mem (j_c7 (i := 28) (by decide +kernel)) rfl
theorem im_X10_bestPair : Cond.instanceMethod yX10_bestPair ∈ j_gw := j_mem (j_c7 (i := 29) (by decide +kernel)) rfl
theorem se_X10_bestPair : Cond.selects RX10 yX10_bestPair yX10_bestPair ∈ j_gw := j_mem (j_c7 (i := 30) (by decide +kernel)) rfl
theorem cd_X10_bestPair : Cond.code yX10_bestPair cX10_bestPair 6 (some .int) ∈ j_gw := j_mem (j_c7 (i := 31) (by decide +kernel)) rfl
theorem mlL_159 : Cond.methodLink RL 159 yX10_gladOnes ∈ j_gw := j_mem (j_c7 (i := 32) (by decide +kernel)) rfl
theorem im_X10_gladOnes : Cond.instanceMethod yX10_gladOnes ∈ j_gw := j_mem (j_c7 (i := 33) (by decide +kernel)) rfl
theorem se_X10_gladOnes : Cond.selects RX10 yX10_gladOnes yX10_gladOnes ∈ j_gw := j_mem (j_c7 (i := 34) (by decide +kernel)) rfl
theorem cd_X10_gladOnes : Cond.code yX10_gladOnes cX10_gladOnes 4 (some .int) ∈ j_gw := j_mem (j_c7 (i := 35) (by decide +kernel)) rfl
theorem mlL_179 : Cond.methodLink RL 179 yX10_oldest ∈ j_gw := j_mem (j_c7 (i := 36) (by decide +kernel)) rfl
theorem im_X10_oldest : Cond.instanceMethod yX10_oldest ∈ j_gw := j_mem (j_c7 (i := 37) (by decide +kernel)) rfl
theorem se_X10_oldest : Cond.selects RX10 yX10_oldest yX10_oldest ∈ j_gw := j_mem (j_c7 (i := 38) (by decide +kernel)) rfl
theorem cd_X10_oldest : Cond.code yX10_oldest cX10_oldest 5 (some .int) ∈ j_gw := j_mem (j_c7 (i := 39) (by decide +kernel)) rfl
theorem mlL_183 : Cond.methodLink RL 183 yX10_twice ∈ j_gw := j_mem (j_c7 (i := 40) (by decide +kernel)) rfl
theorem im_X10_twice : Cond.instanceMethod yX10_twice ∈ j_gw := j_mem (j_c7 (i := 41) (by decide +kernel)) rfl
theorem se_X10_twice : Cond.selects RX10 yX10_twice yX10_twice ∈ j_gw := j_mem (j_c7 (i := 42) (by decide +kernel)) rfl
theorem cd_X10_twice : Cond.code yX10_twice cX10_twice 4 (some .int) ∈ j_gw := j_mem (j_c7 (i := 43) (by decide +kernel)) rfl
theorem mlL_187 : Cond.methodLink RL 187 yX10_unlike ∈ j_gw := j_mem (j_c7 (i := 44) (by decide +kernel)) rfl
theorem im_X10_unlike : Cond.instanceMethod yX10_unlike ∈ j_gw := j_mem (j_c7 (i := 45) (by decide +kernel)) rfl
theorem se_X10_unlike : Cond.selects RX10 yX10_unlike yX10_unlike ∈ j_gw := j_mem (j_c7 (i := 46) (by decide +kernel)) rfl
theorem cd_X10_unlike : Cond.code yX10_unlike cX10_unlike 4 (some .int) ∈ j_gw := j_mem (j_c7 (i := 47) (by decide +kernel)) rfl
theorem mlL_155 : Cond.methodLink RL 155 yX10_places ∈ j_gw := j_mem (j_c7 (i := 48) (by decide +kernel)) rfl
theorem im_X10_places : Cond.instanceMethod yX10_places ∈ j_gw := j_mem (j_c7 (i := 49) (by decide +kernel)) rfl
theorem se_X10_places : Cond.selects RX10 yX10_places yX10_places ∈ j_gw := j_mem (j_c7 (i := 50) (by decide +kernel)) rfl
theorem cd_X10_places : Cond.code yX10_places cX10_places 3 (some .int) ∈ j_gw := j_mem (j_c7 (i := 51) (by decide +kernel)) rfl
theorem mlL_143 : Cond.methodLink RL 143 yX10_sorts ∈ j_gw := j_mem (j_c7 (i := 52) (by decide +kernel)) rfl
theorem im_X10_sorts : Cond.instanceMethod yX10_sorts ∈ j_gw := j_mem (j_c7 (i := 53) (by decide +kernel)) rfl
theorem se_X10_sorts : Cond.selects RX10 yX10_sorts yX10_sorts ∈ j_gw := j_mem (j_c7 (i := 54) (by decide +kernel)) rfl
theorem cd_X10_sorts : Cond.code yX10_sorts cX10_sorts 5 (some .int) ∈ j_gw := j_mem (j_c7 (i := 55) (by decide +kernel)) rfl
theorem mlX10_272 : Cond.methodLink RX10 272 yX10_inWindow ∈ j_gw := j_mem (j_c7 (i := 56) (by decide +kernel)) rfl
theorem im_X10_inWindow : Cond.instanceMethod yX10_inWindow ∈ j_gw := j_mem (j_c7 (i := 58) (by decide +kernel)) rfl
theorem cd_X10_inWindow : Cond.code yX10_inWindow cX10_inWindow 4 (some .int) ∈ j_gw := j_mem (j_c7 (i := 59) (by decide +kernel)) rfl
theorem mlL_147 : Cond.methodLink RL 147 yX10_rare ∈ j_gw := j_mem (j_c7 (i := 60) (by decide +kernel)) rfl
theorem im_X10_rare : Cond.instanceMethod yX10_rare ∈ j_gw := j_mem (j_c7 (i := 61) (by decide +kernel)) rfl
theorem se_X10_rare : Cond.selects RX10 yX10_rare yX10_rare ∈ j_gw := j_mem (j_c7 (i := 62) (by decide +kernel)) rfl
theorem cd_X10_rare : Cond.code yX10_rare cX10_rare 5 (some .int) ∈ j_gw := j_mem (j_c7 (i := 63) (by decide +kernel)) rfl
theorem mlL_151 : Cond.methodLink RL 151 yX10_first ∈ j_gw := j_mem (j_c7 (i := 64) (by decide +kernel)) rfl
theorem im_X10_first : Cond.instanceMethod yX10_first ∈ j_gw := j_mem (j_c7 (i := 65) (by decide +kernel)) rfl
theorem se_X10_first : Cond.selects RX10 yX10_first yX10_first ∈ j_gw := j_mem (j_c7 (i := 66) (by decide +kernel)) rfl
theorem cd_X10_first : Cond.code yX10_first cX10_first 4 (some .int) ∈ j_gw := j_mem (j_c7 (i := 67) (by decide +kernel)) rfl
theorem mlX10_275 : Cond.methodLink RX10 275 yX10_rank ∈ j_gw := j_mem (j_c7 (i := 68) (by decide +kernel)) rfl
theorem im_X10_rank : Cond.instanceMethod yX10_rank ∈ j_gw := j_mem (j_c7 (i := 70) (by decide +kernel)) rfl
theorem cd_X10_rank : Cond.code yX10_rank cX10_rank 5 (some .int) ∈ j_gw := j_mem (j_c7 (i := 71) (by decide +kernel)) rfl
theorem mlL_191 : Cond.methodLink RL 191 yX10_next_ ∈ j_gw := j_mem (j_c7 (i := 72) (by decide +kernel)) rfl
theorem im_X10_next_ : Cond.instanceMethod yX10_next_ ∈ j_gw := j_mem (j_c7 (i := 73) (by decide +kernel)) rfl
theorem se_X10_next_ : Cond.selects RX10 yX10_next_ yX10_next_ ∈ j_gw := j_mem (j_c7 (i := 74) (by decide +kernel)) rfl
theorem cd_X10_next_ : Cond.code yX10_next_ cX10_next_ 2 (some .int) ∈ j_gw := j_mem (j_c7 (i := 75) (by decide +kernel)) rfl
theorem mlX10_287 : Cond.methodLink RX10 287 yX10_swaps ∈ j_gw := j_mem (j_c7 (i := 76) (by decide +kernel)) rfl
theorem im_X10_swaps : Cond.instanceMethod yX10_swaps ∈ j_gw := j_mem (j_c7 (i := 78) (by decide +kernel)) rfl
theorem cd_X10_swaps : Cond.code yX10_swaps cX10_swaps 4 none ∈ j_gw := j_mem (j_c7 (i := 79) (by decide +kernel)) rfl
theorem mlX10_281 : Cond.methodLink RX10 281 yX10_wishOf ∈ j_gw := j_mem (j_c7 (i := 80) (by decide +kernel)) rfl
theorem im_X10_wishOf : Cond.instanceMethod yX10_wishOf ∈ j_gw := j_mem (j_c7 (i := 82) (by decide +kernel)) rfl
theorem cd_X10_wishOf : Cond.code yX10_wishOf cX10_wishOf 4 (some .int) ∈ j_gw := j_mem (j_c7 (i := 83) (by decide +kernel)) rfl
theorem mlX10_278 : Cond.methodLink RX10 278 yX10_bringer ∈ j_gw := j_mem (j_c7 (i := 84) (by decide +kernel)) rfl
theorem im_X10_bringer : Cond.instanceMethod yX10_bringer ∈ j_gw := j_mem (j_c7 (i := 86) (by decide +kernel)) rfl
theorem cd_X10_bringer : Cond.code yX10_bringer cX10_bringer 3 (some .int) ∈ j_gw := j_mem (j_c7 (i := 87) (by decide +kernel)) rfl
theorem mlX10_284 : Cond.methodLink RX10 284 yX10_isRing ∈ j_gw := j_mem (j_c7 (i := 88) (by decide +kernel)) rfl
theorem im_X10_isRing : Cond.instanceMethod yX10_isRing ∈ j_gw := j_mem (j_c7 (i := 90) (by decide +kernel)) rfl
theorem cd_X10_isRing : Cond.code yX10_isRing cX10_isRing 4 (some .boolean) ∈ j_gw := j_mem (j_c7 (i := 91) (by decide +kernel)) rfl
theorem mlL_195 : Cond.methodLink RL 195 yX10_swapped ∈ j_gw := j_mem (j_c7 (i := 92) (by decide +kernel)) rfl
theorem im_X10_swapped : Cond.instanceMethod yX10_swapped ∈ j_gw := j_mem (j_c7 (i := 93) (by decide +kernel)) rfl
theorem se_X10_swapped : Cond.selects RX10 yX10_swapped yX10_swapped ∈ j_gw := j_mem (j_c7 (i := 94) (by decide +kernel)) rfl
theorem cd_X10_swapped : Cond.code yX10_swapped cX10_swapped 1 (some .int) ∈ j_gw := j_mem (j_c7 (i := 95) (by decide +kernel)) rfl
theorem mlX10_290 : Cond.methodLink RX10 290 yX10_others ∈ j_gw := j_mem (j_c7 (i := 96) (by decide +kernel)) rfl
theorem im_X10_others : Cond.instanceMethod yX10_others ∈ j_gw := j_mem (j_c7 (i := 98) (by decide +kernel)) rfl
theorem cd_X10_others : Cond.code yX10_others cX10_others 3 (some .int) ∈ j_gw := j_mem (j_c7 (i := 99) (by decide +kernel)) rfl
theorem mlL_199 : Cond.methodLink RL 199 yX10_judge ∈ j_gw := j_mem (j_c7 (i := 100) (by decide +kernel)) rfl
theorem im_X10_judge : Cond.instanceMethod yX10_judge ∈ j_gw := j_mem (j_c7 (i := 101) (by decide +kernel)) rfl
theorem se_X10_judge : Cond.selects RX10 yX10_judge yX10_judge ∈ j_gw := j_mem (j_c7 (i := 102) (by decide +kernel)) rfl
theorem cd_X10_judge : Cond.code yX10_judge cX10_judge 3 (some .int) ∈ j_gw := j_mem (j_c7 (i := 103) (by decide +kernel)) rfl
theorem mlX10_296 : Cond.methodLink RX10 296 yX10_wrong ∈ j_gw := j_mem (j_c7 (i := 104) (by decide +kernel)) rfl
theorem im_X10_wrong : Cond.instanceMethod yX10_wrong ∈ j_gw := j_mem (j_c7 (i := 106) (by decide +kernel)) rfl
theorem cd_X10_wrong : Cond.code yX10_wrong cX10_wrong 5 (some .int) ∈ j_gw := j_mem (j_c7 (i := 107) (by decide +kernel)) rfl
theorem mlX10_293 : Cond.methodLink RX10 293 yX10_toldAt ∈ j_gw := j_mem (j_c7 (i := 108) (by decide +kernel)) rfl
theorem im_X10_toldAt : Cond.instanceMethod yX10_toldAt ∈ j_gw := j_mem (j_c7 (i := 110) (by decide +kernel)) rfl
theorem cd_X10_toldAt : Cond.code yX10_toldAt cX10_toldAt 3 (some .long) ∈ j_gw := j_mem (j_c7 (i := 111) (by decide +kernel)) rfl
theorem mlL_203 : Cond.methodLink RL 203 yX10_evening ∈ j_gw := j_mem (j_c7 (i := 112) (by decide +kernel)) rfl
theorem im_X10_evening : Cond.instanceMethod yX10_evening ∈ j_gw := j_mem (j_c7 (i := 113) (by decide +kernel)) rfl
theorem se_X10_evening : Cond.selects RX10 yX10_evening yX10_evening ∈ j_gw := j_mem (j_c7 (i := 114) (by decide +kernel)) rfl
theorem cd_X10_evening : Cond.code yX10_evening cX10_evening 2 (some .int) ∈ j_gw := j_mem (j_c7 (i := 115) (by decide +kernel)) rfl
theorem mlX10_307 : Cond.methodLink RX10 307 yX10_goes ∈ j_gw := j_mem (j_c7 (i := 116) (by decide +kernel)) rfl
theorem im_X10_goes : Cond.instanceMethod yX10_goes ∈ j_gw := j_mem (j_c7 (i := 118) (by decide +kernel)) rfl
theorem cd_X10_goes : Cond.code yX10_goes cX10_goes 5 (some .int) ∈ j_gw := j_mem (j_c7 (i := 119) (by decide +kernel)) rfl
theorem mlX10_299 : Cond.methodLink RX10 299 yJ9_min_7cf53 ∈ j_gw := j_mem (j_c7 (i := 120) (by decide +kernel)) rfl
theorem mlL_207 : Cond.methodLink RL 207 yX10_swap ∈ j_gw := j_mem (j_c7 (i := 121) (by decide +kernel)) rfl
theorem im_X10_swap : Cond.instanceMethod yX10_swap ∈ j_gw := j_mem (j_c7 (i := 122) (by decide +kernel)) rfl
theorem se_X10_swap : Cond.selects RX10 yX10_swap yX10_swap ∈ j_gw := j_mem (j_c7 (i := 123) (by decide +kernel)) rfl
theorem cd_X10_swap : Cond.code yX10_swap cX10_swap 3 (some .int) ∈ j_gw := j_mem (j_c7 (i := 124) (by decide +kernel)) rfl
theorem mlX10_310 : Cond.methodLink RX10 310 yJ9_max_7cf53 ∈ j_gw := j_mem (j_c7 (i := 125) (by decide +kernel)) rfl
theorem mlL_211 : Cond.methodLink RL 211 yX10_christmases ∈ j_gw := j_mem (j_c7 (i := 126) (by decide +kernel)) rfl
theorem im_X10_christmases : Cond.instanceMethod yX10_christmases ∈ j_gw := j_mem (j_c7 (i := 127) (by decide +kernel)) rfl
theorem se_X10_christmases : Cond.selects RX10 yX10_christmases yX10_christmases ∈ j_gw := j_mem (j_c7 (i := 128) (by decide +kernel)) rfl
theorem cd_X10_christmases : Cond.code yX10_christmases cX10_christmases 6 (some .int) ∈ j_gw := j_mem (j_c7 (i := 129) (by decide +kernel)) rfl
theorem mlX10_314 : Cond.methodLink RX10 314 yX10_draw ∈ j_gw := j_mem (j_c7 (i := 130) (by decide +kernel)) rfl
theorem im_X10_draw : Cond.instanceMethod yX10_draw ∈ j_gw := j_mem (j_c7 (i := 132) (by decide +kernel)) rfl
theorem cd_X10_draw : Cond.code yX10_draw cX10_draw 2 (some .int) ∈ j_gw := j_mem (j_c7 (i := 133) (by decide +kernel)) rfl
theorem kcX10_313 : Cond.constant RX10 313 (1103515245) ∈ j_gw := j_mem (j_c7 (i := 134) (by decide +kernel)) rfl
theorem mlL_215 : Cond.methodLink RL 215 yX10_seed ∈ j_gw := j_mem (j_c7 (i := 135) (by decide +kernel)) rfl
theorem im_X10_seed : Cond.instanceMethod yX10_seed ∈ j_gw := j_mem (j_c7 (i := 136) (by decide +kernel)) rfl
theorem se_X10_seed : Cond.selects RX10 yX10_seed yX10_seed ∈ j_gw := j_mem (j_c7 (i := 137) (by decide +kernel)) rfl
theorem cd_X10_seed : Cond.code yX10_seed cX10_seed 3 (some .int) ∈ j_gw := j_mem (j_c7 (i := 138) (by decide +kernel)) rfl
theorem mlL_219 : Cond.methodLink RL 219 yX10_image ∈ j_gw := j_mem (j_c7 (i := 139) (by decide +kernel)) rfl
theorem im_X10_image : Cond.instanceMethod yX10_image ∈ j_gw := j_mem (j_c7 (i := 140) (by decide +kernel)) rfl
theorem se_X10_image : Cond.selects RX10 yX10_image yX10_image ∈ j_gw := j_mem (j_c7 (i := 141) (by decide +kernel)) rfl
theorem cd_X10_image : Cond.code yX10_image cX10_image 1 (some .int) ∈ j_gw := j_mem (j_c7 (i := 142) (by decide +kernel)) rfl
theorem mlL_223 : Cond.methodLink RL 223 yX10_back ∈ j_gw := j_mem (j_c7 (i := 143) (by decide +kernel)) rfl
theorem im_X10_back : Cond.instanceMethod yX10_back ∈ j_gw := j_mem (j_c7 (i := 144) (by decide +kernel)) rfl
theorem se_X10_back : Cond.selects RX10 yX10_back yX10_back ∈ j_gw := j_mem (j_c7 (i := 145) (by decide +kernel)) rfl
theorem cd_X10_back : Cond.code yX10_back cX10_back 2 (some .int) ∈ j_gw := j_mem (j_c7 (i := 146) (by decide +kernel)) rfl
theorem mlL_227 : Cond.methodLink RL 227 yX10_status ∈ j_gw := j_mem (j_c7 (i := 147) (by decide +kernel)) rfl
theorem im_X10_status : Cond.instanceMethod yX10_status ∈ j_gw := j_mem (j_c7 (i := 148) (by decide +kernel)) rfl
theorem se_X10_status : Cond.selects RX10 yX10_status yX10_status ∈ j_gw := j_mem (j_c7 (i := 149) (by decide +kernel)) rfl
theorem cd_X10_status : Cond.code yX10_status cX10_status 4 (some .int) ∈ j_gw := j_mem (j_c7 (i := 150) (by decide +kernel)) rfl
theorem kcL_18 : Cond.constantLong RL 18 (4294967295) ∈ j_gw := j_mem (j_c7 (i := 151) (by decide +kernel)) rfl
theorem flJ0_9 : Cond.fieldLink RJ0 9 "java/lang/String" "value" "[B" ∈ j_gw := j_mem (j_c7 (i := 152) (by decide +kernel)) rfl
theorem flJ0_15 : Cond.fieldLink RJ0 15 "java/lang/String" "coder" "B" ∈ j_gw := j_mem (j_c7 (i := 153) (by decide +kernel)) rfl
theorem se_X9_refuse : Cond.selects RX9 yX9_refuse yX9_refuse ∈ j_gw := j_mem (List.mem_append_left _ (List.mem_of_getElem? (i := 0) (by decide +kernel))) rfl
theorem se_X5_holdRow : Cond.selects RX5 yX5_holdRow yX5_holdRow ∈ j_gw := j_mem (List.mem_append_left _ (List.mem_of_getElem? (i := 1) (by decide +kernel))) rfl
theorem se_X5_isRow : Cond.selects RX5 yX5_isRow yX5_isRow ∈ j_gw := j_mem (List.mem_append_left _ (List.mem_of_getElem? (i := 2) (by decide +kernel))) rfl
theorem se_X5_isNothing : Cond.selects RX5 yX5_isNothing yX5_isNothing ∈ j_gw := j_mem (List.mem_append_left _ (List.mem_of_getElem? (i := 3) (by decide +kernel))) rfl
theorem se_X5_put : Cond.selects RX5 yX5_put yX5_put ∈ j_gw := j_mem (List.mem_append_left _ (List.mem_of_getElem? (i := 4) (by decide +kernel))) rfl
theorem se_X5_lowestBits : Cond.selects RX5 yX5_lowestBits yX5_lowestBits ∈ j_gw := j_mem (List.mem_append_left _ (List.mem_of_getElem? (i := 5) (by decide +kernel))) rfl
theorem se_X5_isLooker : Cond.selects RX5 yX5_isLooker yX5_isLooker ∈ j_gw := j_mem (List.mem_append_left _ (List.mem_of_getElem? (i := 6) (by decide +kernel))) rfl
theorem se_X5_hasRun : Cond.selects RX5 yX5_hasRun yX5_hasRun ∈ j_gw := j_mem (List.mem_append_left _ (List.mem_of_getElem? (i := 7) (by decide +kernel))) rfl
theorem se_X5_elementAt : Cond.selects RX5 yX5_elementAt yX5_elementAt ∈ j_gw := j_mem (List.mem_append_left _ (List.mem_of_getElem? (i := 8) (by decide +kernel))) rfl
theorem se_X9_isLooker : Cond.selects RX9 yX9_isLooker yX9_isLooker ∈ j_gw := j_mem (List.mem_append_left _ (List.mem_of_getElem? (i := 9) (by decide +kernel))) rfl
theorem se_X5_holdNothing : Cond.selects RX5 yX5_holdNothing yX5_holdNothing ∈ j_gw := j_mem (List.mem_append_left _ (List.mem_of_getElem? (i := 10) (by decide +kernel))) rfl
theorem se_X5_holdLooker : Cond.selects RX5 yX5_holdLooker yX5_holdLooker ∈ j_gw := j_mem (List.mem_append_left _ (List.mem_of_getElem? (i := 11) (by decide +kernel))) rfl
theorem se_X4_takes : Cond.selects RX4 yX4_takes yX4_takes ∈ j_gw := j_mem (List.mem_append_left _ (List.mem_of_getElem? (i := 12) (by decide +kernel))) rfl
theorem se_X3_wanted : Cond.selects RX3 yX3_wanted yX3_wanted ∈ j_gw := j_mem (List.mem_append_left _ (List.mem_of_getElem? (i := 13) (by decide +kernel))) rfl
theorem se_X4_placesWithAny : Cond.selects RX4 yX4_placesWithAny yX4_placesWithAny ∈ j_gw := j_mem (List.mem_append_left _ (List.mem_of_getElem? (i := 14) (by decide +kernel))) rfl
theorem se_X4_isOnly : Cond.selects RX4 yX4_isOnly yX4_isOnly ∈ j_gw := j_mem (List.mem_append_left _ (List.mem_of_getElem? (i := 15) (by decide +kernel))) rfl
theorem se_X4_placesWithMost : Cond.selects RX4 yX4_placesWithMost yX4_placesWithMost ∈ j_gw := j_mem (List.mem_append_left _ (List.mem_of_getElem? (i := 16) (by decide +kernel))) rfl
theorem se_X4_put : Cond.selects RX4 yX4_put yX4_put ∈ j_gw := j_mem (List.mem_append_left _ (List.mem_of_getElem? (i := 17) (by decide +kernel))) rfl
theorem se_X4_isFull : Cond.selects RX4 yX4_isFull yX4_isFull ∈ j_gw := j_mem (List.mem_append_left _ (List.mem_of_getElem? (i := 18) (by decide +kernel))) rfl
theorem se_X4_add : Cond.selects RX4 yX4_add yX4_add ∈ j_gw := j_mem (List.mem_append_left _ (List.mem_of_getElem? (i := 19) (by decide +kernel))) rfl
theorem se_X3_begin : Cond.selects RX3 yX3_begin yX3_begin ∈ j_gw := j_mem (List.mem_append_left _ (List.mem_of_getElem? (i := 20) (by decide +kernel))) rfl
theorem se_X4_orderByAge : Cond.selects RX4 yX4_orderByAge yX4_orderByAge ∈ j_gw := j_mem (List.mem_append_left _ (List.mem_of_getElem? (i := 21) (by decide +kernel))) rfl
theorem se_X3_like : Cond.selects RX3 yX3_like yX3_like ∈ j_gw := j_mem (List.mem_append_left _ (List.mem_of_getElem? (i := 22) (by decide +kernel))) rfl
theorem se_X9_tellComes : Cond.selects RX9 yX9_tellComes yX9_tellComes ∈ j_gw := j_mem (List.mem_append_left _ (List.mem_of_getElem? (i := 23) (by decide +kernel))) rfl
theorem se_X9_tellAge : Cond.selects RX9 yX9_tellAge yX9_tellAge ∈ j_gw := j_mem (List.mem_append_left _ (List.mem_of_getElem? (i := 24) (by decide +kernel))) rfl
theorem se_X4_putAge : Cond.selects RX4 yX4_putAge yX4_putAge ∈ j_gw := j_mem (List.mem_append_left _ (List.mem_of_getElem? (i := 25) (by decide +kernel))) rfl
theorem se_X9_tellShine : Cond.selects RX9 yX9_tellShine yX9_tellShine ∈ j_gw := j_mem (List.mem_append_left _ (List.mem_of_getElem? (i := 26) (by decide +kernel))) rfl
theorem se_X7_add : Cond.selects RX7 yX7_add yX7_add ∈ j_gw := j_mem (List.mem_append_left _ (List.mem_of_getElem? (i := 27) (by decide +kernel))) rfl
theorem se_X7_clear : Cond.selects RX7 yX7_clear yX7_clear ∈ j_gw := j_mem (List.mem_append_left _ (List.mem_of_getElem? (i := 28) (by decide +kernel))) rfl
theorem se_X4_become : Cond.selects RX4 yX4_become yX4_become ∈ j_gw := j_mem (List.mem_append_left _ (List.mem_of_getElem? (i := 29) (by decide +kernel))) rfl
theorem se_X3_become : Cond.selects RX3 yX3_become yX3_become ∈ j_gw := j_mem (List.mem_append_left _ (List.mem_of_getElem? (i := 30) (by decide +kernel))) rfl
theorem se_X7_read : Cond.selects RX7 yX7_read yX7_read ∈ j_gw := j_mem (List.mem_append_left _ (List.mem_of_getElem? (i := 31) (by decide +kernel))) rfl
theorem se_X7_readStatement : Cond.selects RX7 yX7_readStatement yX7_readStatement ∈ j_gw := j_mem (List.mem_append_left _ (List.mem_of_getElem? (i := 32) (by decide +kernel))) rfl
theorem se_X7_skipBlanks : Cond.selects RX7 yX7_skipBlanks yX7_skipBlanks ∈ j_gw := j_mem (List.mem_append_left _ (List.mem_of_getElem? (i := 33) (by decide +kernel))) rfl
theorem se_X7_readWord : Cond.selects RX7 yX7_readWord yX7_readWord ∈ j_gw := j_mem (List.mem_append_left _ (List.mem_of_getElem? (i := 34) (by decide +kernel))) rfl
theorem se_X7_isSpelled : Cond.selects RX7 yX7_isSpelled yX7_isSpelled ∈ j_gw := j_mem (List.mem_append_left _ (List.mem_of_getElem? (i := 35) (by decide +kernel))) rfl
theorem se_X7_readPlace : Cond.selects RX7 yX7_readPlace yX7_readPlace ∈ j_gw := j_mem (List.mem_append_left _ (List.mem_of_getElem? (i := 36) (by decide +kernel))) rfl
theorem se_X7_readNumber : Cond.selects RX7 yX7_readNumber yX7_readNumber ∈ j_gw := j_mem (List.mem_append_left _ (List.mem_of_getElem? (i := 37) (by decide +kernel))) rfl
theorem se_X7_readClear : Cond.selects RX7 yX7_readClear yX7_readClear ∈ j_gw := j_mem (List.mem_append_left _ (List.mem_of_getElem? (i := 38) (by decide +kernel))) rfl
theorem se_X7_readLooker : Cond.selects RX7 yX7_readLooker yX7_readLooker ∈ j_gw := j_mem (List.mem_append_left _ (List.mem_of_getElem? (i := 39) (by decide +kernel))) rfl
theorem se_X7_readLikes : Cond.selects RX7 yX7_readLikes yX7_readLikes ∈ j_gw := j_mem (List.mem_append_left _ (List.mem_of_getElem? (i := 40) (by decide +kernel))) rfl
theorem se_X7_readComes : Cond.selects RX7 yX7_readComes yX7_readComes ∈ j_gw := j_mem (List.mem_append_left _ (List.mem_of_getElem? (i := 41) (by decide +kernel))) rfl
theorem se_X7_readShine : Cond.selects RX7 yX7_readShine yX7_readShine ∈ j_gw := j_mem (List.mem_append_left _ (List.mem_of_getElem? (i := 42) (by decide +kernel))) rfl
theorem se_X7_readSemicolon : Cond.selects RX7 yX7_readSemicolon yX7_readSemicolon ∈ j_gw := j_mem (List.mem_append_left _ (List.mem_of_getElem? (i := 43) (by decide +kernel))) rfl
theorem se_X4_countWhoLike : Cond.selects RX4 yX4_countWhoLike yX4_countWhoLike ∈ j_gw := j_mem (List.mem_append_left _ (List.mem_of_getElem? (i := 44) (by decide +kernel))) rfl
theorem se_X4_countWithA : Cond.selects RX4 yX4_countWithA yX4_countWithA ∈ j_gw := j_mem (List.mem_append_left _ (List.mem_of_getElem? (i := 45) (by decide +kernel))) rfl
theorem se_X4_rarestSort : Cond.selects RX4 yX4_rarestSort yX4_rarestSort ∈ j_gw := j_mem (List.mem_append_left _ (List.mem_of_getElem? (i := 46) (by decide +kernel))) rfl
theorem se_X4_commonestSort : Cond.selects RX4 yX4_commonestSort yX4_commonestSort ∈ j_gw := j_mem (List.mem_append_left _ (List.mem_of_getElem? (i := 47) (by decide +kernel))) rfl
theorem se_X4_firstWithMost : Cond.selects RX4 yX4_firstWithMost yX4_firstWithMost ∈ j_gw := j_mem (List.mem_append_left _ (List.mem_of_getElem? (i := 48) (by decide +kernel))) rfl
theorem se_X3_countHad : Cond.selects RX3 yX3_countHad yX3_countHad ∈ j_gw := j_mem (List.mem_append_left _ (List.mem_of_getElem? (i := 49) (by decide +kernel))) rfl
theorem se_X9_isSet : Cond.selects RX9 yX9_isSet yX9_isSet ∈ j_gw := j_mem (List.mem_append_left _ (List.mem_of_getElem? (i := 50) (by decide +kernel))) rfl
theorem se_X4_everybody : Cond.selects RX4 yX4_everybody yX4_everybody ∈ j_gw := j_mem (List.mem_append_left _ (List.mem_of_getElem? (i := 51) (by decide +kernel))) rfl
theorem se_X2_run : Cond.selects RX2 yX2_run yX2_run ∈ j_gw := j_mem (List.mem_append_left _ (List.mem_of_getElem? (i := 52) (by decide +kernel))) rfl
theorem se_X4_inOrder : Cond.selects RX4 yX4_inOrder yX4_inOrder ∈ j_gw := j_mem (List.mem_append_left _ (List.mem_of_getElem? (i := 53) (by decide +kernel))) rfl
theorem se_X4_countUnlike : Cond.selects RX4 yX4_countUnlike yX4_countUnlike ∈ j_gw := j_mem (List.mem_append_left _ (List.mem_of_getElem? (i := 54) (by decide +kernel))) rfl
theorem se_X4_wrongPair : Cond.selects RX4 yX4_wrongPair yX4_wrongPair ∈ j_gw := j_mem (List.mem_append_left _ (List.mem_of_getElem? (i := 55) (by decide +kernel))) rfl
theorem se_X4_toldLookers : Cond.selects RX4 yX4_toldLookers yX4_toldLookers ∈ j_gw := j_mem (List.mem_append_left _ (List.mem_of_getElem? (i := 56) (by decide +kernel))) rfl
theorem se_X4_firstTaken : Cond.selects RX4 yX4_firstTaken yX4_firstTaken ∈ j_gw := j_mem (List.mem_append_left _ (List.mem_of_getElem? (i := 57) (by decide +kernel))) rfl
theorem se_X1_findAway : Cond.selects RX1 yX1_findAway yX1_findAway ∈ j_gw := j_mem (List.mem_append_left _ (List.mem_of_getElem? (i := 58) (by decide +kernel))) rfl
theorem se_X1_findGladdest : Cond.selects RX1 yX1_findGladdest yX1_findGladdest ∈ j_gw := j_mem (List.mem_append_left _ (List.mem_of_getElem? (i := 59) (by decide +kernel))) rfl
theorem se_X1_findLeaving : Cond.selects RX1 yX1_findLeaving yX1_findLeaving ∈ j_gw := j_mem (List.mem_append_left _ (List.mem_of_getElem? (i := 60) (by decide +kernel))) rfl
theorem se_X0_ofLeft : Cond.selects RX0 yX0_ofLeft yX0_ofLeft ∈ j_gw := j_mem (List.mem_append_left _ (List.mem_of_getElem? (i := 61) (by decide +kernel))) rfl
theorem se_X0_ofGlad : Cond.selects RX0 yX0_ofGlad yX0_ofGlad ∈ j_gw := j_mem (List.mem_append_left _ (List.mem_of_getElem? (i := 62) (by decide +kernel))) rfl
theorem se_X0_ofManyGlad : Cond.selects RX0 yX0_ofManyGlad yX0_ofManyGlad ∈ j_gw := j_mem (List.mem_append_left _ (List.mem_of_getElem? (i := 63) (by decide +kernel))) rfl
theorem se_X0_meanOfLeft : Cond.selects RX0 yX0_meanOfLeft yX0_meanOfLeft ∈ j_gw := j_mem (List.mem_append_left _ (List.mem_of_getElem? (i := 64) (by decide +kernel))) rfl
theorem se_X8_findSetOut : Cond.selects RX8 yX8_findSetOut yX8_findSetOut ∈ j_gw := j_mem (List.mem_append_left _ (List.mem_of_getElem? (i := 65) (by decide +kernel))) rfl
theorem se_X8_findEmptyPlaces : Cond.selects RX8 yX8_findEmptyPlaces yX8_findEmptyPlaces ∈ j_gw := j_mem (List.mem_append_left _ (List.mem_of_getElem? (i := 66) (by decide +kernel))) rfl
theorem se_X8_isEnough : Cond.selects RX8 yX8_isEnough yX8_isEnough ∈ j_gw := j_mem (List.mem_append_left _ (List.mem_of_getElem? (i := 67) (by decide +kernel))) rfl
theorem se_X8_putRow : Cond.selects RX8 yX8_putRow yX8_putRow ∈ j_gw := j_mem (List.mem_append_left _ (List.mem_of_getElem? (i := 68) (by decide +kernel))) rfl
theorem se_X8_sortSetOut : Cond.selects RX8 yX8_sortSetOut yX8_sortSetOut ∈ j_gw := j_mem (List.mem_append_left _ (List.mem_of_getElem? (i := 69) (by decide +kernel))) rfl
theorem se_X8_kindsTaking : Cond.selects RX8 yX8_kindsTaking yX8_kindsTaking ∈ j_gw := j_mem (List.mem_append_left _ (List.mem_of_getElem? (i := 70) (by decide +kernel))) rfl
theorem se_X8_wishesTaking : Cond.selects RX8 yX8_wishesTaking yX8_wishesTaking ∈ j_gw := j_mem (List.mem_append_left _ (List.mem_of_getElem? (i := 71) (by decide +kernel))) rfl
theorem se_X8_gladExchanged : Cond.selects RX8 yX8_gladExchanged yX8_gladExchanged ∈ j_gw := j_mem (List.mem_append_left _ (List.mem_of_getElem? (i := 72) (by decide +kernel))) rfl
theorem se_X8_bestExchange : Cond.selects RX8 yX8_bestExchange yX8_bestExchange ∈ j_gw := j_mem (List.mem_append_left _ (List.mem_of_getElem? (i := 73) (by decide +kernel))) rfl
theorem se_X8_greatestGladAge : Cond.selects RX8 yX8_greatestGladAge yX8_greatestGladAge ∈ j_gw := j_mem (List.mem_append_left _ (List.mem_of_getElem? (i := 74) (by decide +kernel))) rfl
theorem se_X6_settle : Cond.selects RX6 yX6_settle yX6_settle ∈ j_gw := j_mem (List.mem_append_left _ (List.mem_of_getElem? (i := 75) (by decide +kernel))) rfl
theorem se_X4_bringers : Cond.selects RX4 yX4_bringers yX4_bringers ∈ j_gw := j_mem (List.mem_append_left _ (List.mem_of_getElem? (i := 76) (by decide +kernel))) rfl
theorem se_X6_settleRings : Cond.selects RX6 yX6_settleRings yX6_settleRings ∈ j_gw := j_mem (List.mem_append_left _ (List.mem_of_getElem? (i := 77) (by decide +kernel))) rfl
theorem se_X6_wishOf : Cond.selects RX6 yX6_wishOf yX6_wishOf ∈ j_gw := j_mem (List.mem_append_left _ (List.mem_of_getElem? (i := 78) (by decide +kernel))) rfl
theorem se_X6_isOnRing : Cond.selects RX6 yX6_isOnRing yX6_isOnRing ∈ j_gw := j_mem (List.mem_append_left _ (List.mem_of_getElem? (i := 79) (by decide +kernel))) rfl
theorem se_X6_countOthers : Cond.selects RX6 yX6_countOthers yX6_countOthers ∈ j_gw := j_mem (List.mem_append_left _ (List.mem_of_getElem? (i := 80) (by decide +kernel))) rfl
theorem se_X6_carryOut : Cond.selects RX6 yX6_carryOut yX6_carryOut ∈ j_gw := j_mem (List.mem_append_left _ (List.mem_of_getElem? (i := 81) (by decide +kernel))) rfl
theorem se_X3_lose : Cond.selects RX3 yX3_lose yX3_lose ∈ j_gw := j_mem (List.mem_append_left _ (List.mem_of_getElem? (i := 82) (by decide +kernel))) rfl
theorem se_X3_gain : Cond.selects RX3 yX3_gain yX3_gain ∈ j_gw := j_mem (List.mem_append_left _ (List.mem_of_getElem? (i := 83) (by decide +kernel))) rfl
theorem se_X2_runInTruth : Cond.selects RX2 yX2_runInTruth yX2_runInTruth ∈ j_gw := j_mem (List.mem_append_left _ (List.mem_of_getElem? (i := 84) (by decide +kernel))) rfl
theorem se_X2_handOver : Cond.selects RX2 yX2_handOver yX2_handOver ∈ j_gw := j_mem (List.mem_append_left _ (List.mem_of_getElem? (i := 85) (by decide +kernel))) rfl
theorem se_X4_drawWhoCome : Cond.selects RX4 yX4_drawWhoCome yX4_drawWhoCome ∈ j_gw := j_mem (List.mem_append_left _ (List.mem_of_getElem? (i := 86) (by decide +kernel))) rfl
theorem se_X4_draw : Cond.selects RX4 yX4_draw yX4_draw ∈ j_gw := j_mem (List.mem_append_left _ (List.mem_of_getElem? (i := 87) (by decide +kernel))) rfl
theorem se_X4_drawThings : Cond.selects RX4 yX4_drawThings yX4_drawThings ∈ j_gw := j_mem (List.mem_append_left _ (List.mem_of_getElem? (i := 88) (by decide +kernel))) rfl
theorem se_X4_countHad : Cond.selects RX4 yX4_countHad yX4_countHad ∈ j_gw := j_mem (List.mem_append_left _ (List.mem_of_getElem? (i := 89) (by decide +kernel))) rfl
theorem se_X9_countShelvesInUse : Cond.selects RX9 yX9_countShelvesInUse yX9_countShelvesInUse ∈ j_gw := j_mem (List.mem_append_left _ (List.mem_of_getElem? (i := 90) (by decide +kernel))) rfl
theorem se_X9_refusalsOf : Cond.selects RX9 yX9_refusalsOf yX9_refusalsOf ∈ j_gw := j_mem (List.mem_append_left _ (List.mem_of_getElem? (i := 91) (by decide +kernel))) rfl
theorem se_X10_no : Cond.selects RX10 yX10_no yX10_no ∈ j_gw := j_mem (List.mem_append_left _ (List.mem_of_getElem? (i := 92) (by decide +kernel))) rfl
theorem se_X10_isRow : Cond.selects RX10 yX10_isRow yX10_isRow ∈ j_gw := j_mem (List.mem_append_left _ (List.mem_of_getElem? (i := 93) (by decide +kernel))) rfl
theorem se_X10_noRow : Cond.selects RX10 yX10_noRow yX10_noRow ∈ j_gw := j_mem (List.mem_append_left _ (List.mem_of_getElem? (i := 94) (by decide +kernel))) rfl
theorem se_X10_isLooker : Cond.selects RX10 yX10_isLooker yX10_isLooker ∈ j_gw := j_mem (List.mem_append_left _ (List.mem_of_getElem? (i := 95) (by decide +kernel))) rfl
theorem se_X10_runs : Cond.selects RX10 yX10_runs yX10_runs ∈ j_gw := j_mem (List.mem_append_left _ (List.mem_of_getElem? (i := 96) (by decide +kernel))) rfl
theorem se_X10_begins : Cond.selects RX10 yX10_begins yX10_begins ∈ j_gw := j_mem (List.mem_append_left _ (List.mem_of_getElem? (i := 97) (by decide +kernel))) rfl
theorem se_X10_orders : Cond.selects RX10 yX10_orders yX10_orders ∈ j_gw := j_mem (List.mem_append_left _ (List.mem_of_getElem? (i := 98) (by decide +kernel))) rfl
theorem se_X10_lookerGoes : Cond.selects RX10 yX10_lookerGoes yX10_lookerGoes ∈ j_gw := j_mem (List.mem_append_left _ (List.mem_of_getElem? (i := 99) (by decide +kernel))) rfl
theorem se_X10_lastLiked : Cond.selects RX10 yX10_lastLiked yX10_lastLiked ∈ j_gw := j_mem (List.mem_append_left _ (List.mem_of_getElem? (i := 100) (by decide +kernel))) rfl
theorem se_X10_doesLike : Cond.selects RX10 yX10_doesLike yX10_doesLike ∈ j_gw := j_mem (List.mem_append_left _ (List.mem_of_getElem? (i := 101) (by decide +kernel))) rfl
theorem se_X10_takes : Cond.selects RX10 yX10_takes yX10_takes ∈ j_gw := j_mem (List.mem_append_left _ (List.mem_of_getElem? (i := 102) (by decide +kernel))) rfl
theorem se_X10_firstWith : Cond.selects RX10 yX10_firstWith yX10_firstWith ∈ j_gw := j_mem (List.mem_append_left _ (List.mem_of_getElem? (i := 103) (by decide +kernel))) rfl
theorem se_X10_look : Cond.selects RX10 yX10_look yX10_look ∈ j_gw := j_mem (List.mem_append_left _ (List.mem_of_getElem? (i := 104) (by decide +kernel))) rfl
theorem se_X10_manyOf : Cond.selects RX10 yX10_manyOf yX10_manyOf ∈ j_gw := j_mem (List.mem_append_left _ (List.mem_of_getElem? (i := 105) (by decide +kernel))) rfl
theorem se_X10_shyest : Cond.selects RX10 yX10_shyest yX10_shyest ∈ j_gw := j_mem (List.mem_append_left _ (List.mem_of_getElem? (i := 106) (by decide +kernel))) rfl
theorem se_X10_newLooker : Cond.selects RX10 yX10_newLooker yX10_newLooker ∈ j_gw := j_mem (List.mem_append_left _ (List.mem_of_getElem? (i := 107) (by decide +kernel))) rfl
theorem se_X10_keep : Cond.selects RX10 yX10_keep yX10_keep ∈ j_gw := j_mem (List.mem_append_left _ (List.mem_of_getElem? (i := 108) (by decide +kernel))) rfl
theorem se_X10_next : Cond.selects RX10 yX10_next yX10_next ∈ j_gw := j_mem (List.mem_append_left _ (List.mem_of_getElem? (i := 109) (by decide +kernel))) rfl
theorem se_X10_statement : Cond.selects RX10 yX10_statement yX10_statement ∈ j_gw := j_mem (List.mem_append_left _ (List.mem_of_getElem? (i := 110) (by decide +kernel))) rfl
theorem se_X10_isWord : Cond.selects RX10 yX10_isWord yX10_isWord ∈ j_gw := j_mem (List.mem_append_left _ (List.mem_of_getElem? (i := 111) (by decide +kernel))) rfl
theorem se_X10_number : Cond.selects RX10 yX10_number yX10_number ∈ j_gw := j_mem (List.mem_append_left _ (List.mem_of_getElem? (i := 112) (by decide +kernel))) rfl
theorem se_X10_again : Cond.selects RX10 yX10_again yX10_again ∈ j_gw := j_mem (List.mem_append_left _ (List.mem_of_getElem? (i := 113) (by decide +kernel))) rfl
theorem se_X10_isSet : Cond.selects RX10 yX10_isSet yX10_isSet ∈ j_gw := j_mem (List.mem_append_left _ (List.mem_of_getElem? (i := 114) (by decide +kernel))) rfl
theorem se_X10_leftThen : Cond.selects RX10 yX10_leftThen yX10_leftThen ∈ j_gw := j_mem (List.mem_append_left _ (List.mem_of_getElem? (i := 115) (by decide +kernel))) rfl
theorem se_X10_gladOf : Cond.selects RX10 yX10_gladOf yX10_gladOf ∈ j_gw := j_mem (List.mem_append_left _ (List.mem_of_getElem? (i := 116) (by decide +kernel))) rfl
theorem se_X10_isGlad : Cond.selects RX10 yX10_isGlad yX10_isGlad ∈ j_gw := j_mem (List.mem_append_left _ (List.mem_of_getElem? (i := 117) (by decide +kernel))) rfl
theorem se_X10_putsOut : Cond.selects RX10 yX10_putsOut yX10_putsOut ∈ j_gw := j_mem (List.mem_append_left _ (List.mem_of_getElem? (i := 118) (by decide +kernel))) rfl
theorem se_X10_waysOf : Cond.selects RX10 yX10_waysOf yX10_waysOf ∈ j_gw := j_mem (List.mem_append_left _ (List.mem_of_getElem? (i := 119) (by decide +kernel))) rfl
theorem se_X10_allWays : Cond.selects RX10 yX10_allWays yX10_allWays ∈ j_gw := j_mem (List.mem_append_left _ (List.mem_of_getElem? (i := 120) (by decide +kernel))) rfl
theorem se_X10_exchanges : Cond.selects RX10 yX10_exchanges yX10_exchanges ∈ j_gw := j_mem (List.mem_append_left _ (List.mem_of_getElem? (i := 121) (by decide +kernel))) rfl
theorem se_X10_inWindow : Cond.selects RX10 yX10_inWindow yX10_inWindow ∈ j_gw := j_mem (List.mem_append_left _ (List.mem_of_getElem? (i := 122) (by decide +kernel))) rfl
theorem se_X10_rank : Cond.selects RX10 yX10_rank yX10_rank ∈ j_gw := j_mem (List.mem_append_left _ (List.mem_of_getElem? (i := 123) (by decide +kernel))) rfl
theorem se_X10_swaps : Cond.selects RX10 yX10_swaps yX10_swaps ∈ j_gw := j_mem (List.mem_append_left _ (List.mem_of_getElem? (i := 124) (by decide +kernel))) rfl
theorem se_X10_wishOf : Cond.selects RX10 yX10_wishOf yX10_wishOf ∈ j_gw := j_mem (List.mem_append_left _ (List.mem_of_getElem? (i := 125) (by decide +kernel))) rfl
theorem se_X10_bringer : Cond.selects RX10 yX10_bringer yX10_bringer ∈ j_gw := j_mem (List.mem_append_left _ (List.mem_of_getElem? (i := 126) (by decide +kernel))) rfl
theorem se_X10_isRing : Cond.selects RX10 yX10_isRing yX10_isRing ∈ j_gw := j_mem (List.mem_append_left _ (List.mem_of_getElem? (i := 127) (by decide +kernel))) rfl
theorem se_X10_others : Cond.selects RX10 yX10_others yX10_others ∈ j_gw := j_mem (List.mem_append_left _ (List.mem_of_getElem? (i := 128) (by decide +kernel))) rfl
theorem se_X10_wrong : Cond.selects RX10 yX10_wrong yX10_wrong ∈ j_gw := j_mem (List.mem_append_left _ (List.mem_of_getElem? (i := 129) (by decide +kernel))) rfl
theorem se_X10_toldAt : Cond.selects RX10 yX10_toldAt yX10_toldAt ∈ j_gw := j_mem (List.mem_append_left _ (List.mem_of_getElem? (i := 130) (by decide +kernel))) rfl
theorem se_X10_goes : Cond.selects RX10 yX10_goes yX10_goes ∈ j_gw := j_mem (List.mem_append_left _ (List.mem_of_getElem? (i := 131) (by decide +kernel))) rfl
theorem se_X10_draw : Cond.selects RX10 yX10_draw yX10_draw ∈ j_gw := j_mem (List.mem_append_left _ (List.mem_of_getElem? (i := 132) (by decide +kernel))) rfl
theorem uw0 : ∀ w ∈ u_ws RX0 TX0 1, w ∈ j_gw := by
  have h : u_ws RX0 TX0 1 = [341].filterMap (fun i => lw_tbl[i]?) ∧ (u_ws RX0 TX0 1).all goodWord = true := by decide +kernel
  intro w hw
  refine List.mem_filter.mpr ⟨?_, List.all_eq_true.mp h.2 w hw⟩
  rw [h.1] at hw
  obtain ⟨i, -, hi⟩ := List.mem_filterMap.mp hw
  exact List.mem_of_getElem? hi
theorem uw1 : ∀ w ∈ u_ws RX1 TX1 5, w ∈ j_gw := by
  have h : u_ws RX1 TX1 5 = [321, 323, 325, 327, 329].filterMap (fun i => lw_tbl[i]?) ∧ (u_ws RX1 TX1 5).all goodWord = true := by decide +kernel
  intro w hw
  refine List.mem_filter.mpr ⟨?_, List.all_eq_true.mp h.2 w hw⟩
  rw [h.1] at hw
  obtain ⟨i, -, hi⟩ := List.mem_filterMap.mp hw
  exact List.mem_of_getElem? hi
theorem uw2 : ∀ w ∈ u_ws RX2 TX2 4, w ∈ j_gw := by
  have h : u_ws RX2 TX2 4 = [295, 297, 299, 301].filterMap (fun i => lw_tbl[i]?) ∧ (u_ws RX2 TX2 4).all goodWord = true := by decide +kernel
  intro w hw
  refine List.mem_filter.mpr ⟨?_, List.all_eq_true.mp h.2 w hw⟩
  rw [h.1] at hw
  obtain ⟨i, -, hi⟩ := List.mem_filterMap.mp hw
  exact List.mem_of_getElem? hi
theorem uw3 : ∀ w ∈ u_ws RX3 TX3 7, w ∈ j_gw := by
  have h : u_ws RX3 TX3 7 = [208, 210, 212, 214, 216, 218, 220].filterMap (fun i => lw_tbl[i]?) ∧ (u_ws RX3 TX3 7).all goodWord = true := by decide +kernel
  intro w hw
  refine List.mem_filter.mpr ⟨?_, List.all_eq_true.mp h.2 w hw⟩
  rw [h.1] at hw
  obtain ⟨i, -, hi⟩ := List.mem_filterMap.mp hw
  exact List.mem_of_getElem? hi
theorem uw4 : ∀ w ∈ u_ws RX4 TX4 8, w ∈ j_gw := by
  have h : u_ws RX4 TX4 8 = [258, 260, 262, 264, 266, 268, 270, 272].filterMap (fun i => lw_tbl[i]?) ∧ (u_ws RX4 TX4 8).all goodWord = true := by decide +kernel
  intro w hw
  refine List.mem_filter.mpr ⟨?_, List.all_eq_true.mp h.2 w hw⟩
  rw [h.1] at hw
  obtain ⟨i, -, hi⟩ := List.mem_filterMap.mp hw
  exact List.mem_of_getElem? hi
theorem uw5 : ∀ w ∈ u_ws RX5 TX5 3, w ∈ j_gw := by
  have h : u_ws RX5 TX5 3 = [415, 417, 419].filterMap (fun i => lw_tbl[i]?) ∧ (u_ws RX5 TX5 3).all goodWord = true := by decide +kernel
  intro w hw
  refine List.mem_filter.mpr ⟨?_, List.all_eq_true.mp h.2 w hw⟩
  rw [h.1] at hw
  obtain ⟨i, -, hi⟩ := List.mem_filterMap.mp hw
  exact List.mem_of_getElem? hi
theorem uw6 : ∀ w ∈ u_ws RX6 TX6 2, w ∈ j_gw := by
  have h : u_ws RX6 TX6 2 = [376, 378].filterMap (fun i => lw_tbl[i]?) ∧ (u_ws RX6 TX6 2).all goodWord = true := by decide +kernel
  intro w hw
  refine List.mem_filter.mpr ⟨?_, List.all_eq_true.mp h.2 w hw⟩
  rw [h.1] at hw
  obtain ⟨i, -, hi⟩ := List.mem_filterMap.mp hw
  exact List.mem_of_getElem? hi
theorem uw7 : ∀ w ∈ u_ws RX7 TX7 4, w ∈ j_gw := by
  have h : u_ws RX7 TX7 4 = [393, 395, 397, 399].filterMap (fun i => lw_tbl[i]?) ∧ (u_ws RX7 TX7 4).all goodWord = true := by decide +kernel
  intro w hw
  refine List.mem_filter.mpr ⟨?_, List.all_eq_true.mp h.2 w hw⟩
  rw [h.1] at hw
  obtain ⟨i, -, hi⟩ := List.mem_filterMap.mp hw
  exact List.mem_of_getElem? hi
theorem uw8 : ∀ w ∈ u_ws RX8 TX8 4, w ∈ j_gw := by
  have h : u_ws RX8 TX8 4 = [358, 360, 362, 364].filterMap (fun i => lw_tbl[i]?) ∧ (u_ws RX8 TX8 4).all goodWord = true := by decide +kernel
  intro w hw
  refine List.mem_filter.mpr ⟨?_, List.all_eq_true.mp h.2 w hw⟩
  rw [h.1] at hw
  obtain ⟨i, -, hi⟩ := List.mem_filterMap.mp hw
  exact List.mem_of_getElem? hi
theorem uw9 : ∀ w ∈ u_ws RX9 TX9 12, w ∈ j_gw := by
  have h : u_ws RX9 TX9 12 = [435, 437, 439, 441, 443, 445, 447, 449, 451, 453, 455, 457].filterMap (fun i => lw_tbl[i]?) ∧ (u_ws RX9 TX9 12).all goodWord = true := by decide +kernel
  intro w hw
  refine List.mem_filter.mpr ⟨?_, List.all_eq_true.mp h.2 w hw⟩
  rw [h.1] at hw
  obtain ⟨i, -, hi⟩ := List.mem_filterMap.mp hw
  exact List.mem_of_getElem? hi
theorem uw10 : ∀ w ∈ u_ws RX10 TX10 33, w ∈ j_gw := by
  have h : u_ws RX10 TX10 33 = [1243, 1245, 1247, 1249, 1251, 1253, 1255, 1257, 1259, 1261, 1263, 1265, 1267, 1269, 1271, 1273, 1275, 1277, 1279, 1281, 1283, 1285, 1287, 1289, 1291, 1293, 1295, 1297, 1299, 1301, 1303, 1305, 1307].filterMap (fun i => lw_tbl[i]?) ∧ (u_ws RX10 TX10 33).all goodWord = true := by decide +kernel
  intro w hw
  refine List.mem_filter.mpr ⟨?_, List.all_eq_true.mp h.2 w hw⟩
  rw [h.1] at hw
  obtain ⟨i, -, hi⟩ := List.mem_filterMap.mp hw
  exact List.mem_of_getElem? hi
