/-! the class: what its cells hold -/
abbrev OA (w : Nat → Nat → Int32) (n : Nat) : List Nat := ordO (w 4) (fun _ => true) n
def pwB (w : Nat → Nat → Int32) (s : Nat) : Int32 := bK (fun p => w 1 p == nI s) 12
def LK (μ : j_M) (x : Nat) (w : Nat → Nat → Int32) (l : Nat) : Prop := μ.1 x 1 = w 2 l ∧ μ.1 x 2 = w 3 l ∧ μ.1 x 3 = w 4 l ∧ μ.1 x 4 = w 5 l ∧ μ.1 x 5 = w 6 l ∧ μ.1 x 6 = w 7 l ∧ ∀ s, s < 8 → μ.1 (x + 1) s = w 8 (8 * l + s)
/-- the scene at b holds the world w with n lookers -/
def SC (μ : j_M) (b : Nat) (w : Nat → Nat → Int32) (n : Nat) : Prop := (∀ p, p < 12 → μ.1 (b + 1) p = w 1 p) ∧ (∀ s, s < 8 → μ.1 (b + 2) s = pwB w s) ∧ (∀ j, j < n → μ.1 (b + 4) j = nI ((OA w n).getD j 0)) ∧ (∀ l, l < n → LK μ (b + 5 + 2 * l) w l) ∧ μ.1 b 4 = lfB (w 1) ∧ μ.1 b 5 = nI n ∧ μ.1 b 6 = w 0 9 ∧ μ.1 b 7 = w 0 10
theorem SC.srt {μ : j_M} {b n : Nat} {w : Nat → Nat → Int32} (h : SC μ b w n) : ∀ p, p < 12 → μ.1 (b + 1) p = w 1 p := h.1
theorem SC.plw {μ : j_M} {b n : Nat} {w : Nat → Nat → Int32} (h : SC μ b w n) : ∀ s, s < 8 → μ.1 (b + 2) s = pwB w s := h.2.1
theorem SC.ord {μ : j_M} {b n : Nat} {w : Nat → Nat → Int32} (h : SC μ b w n) : ∀ j, j < n → μ.1 (b + 4) j = nI ((OA w n).getD j 0) := h.2.2.1
theorem SC.lk {μ : j_M} {b n : Nat} {w : Nat → Nat → Int32} (h : SC μ b w n) : ∀ l, l < n → LK μ (b + 5 + 2 * l) w l := h.2.2.2.1
theorem SC.fil {μ : j_M} {b n : Nat} {w : Nat → Nat → Int32} (h : SC μ b w n) : μ.1 b 4 = lfB (w 1) := h.2.2.2.2.1
theorem SC.cnt {μ : j_M} {b n : Nat} {w : Nat → Nat → Int32} (h : SC μ b w n) : μ.1 b 5 = nI n := h.2.2.2.2.2.1
theorem SC.evs {μ : j_M} {b n : Nat} {w : Nat → Nat → Int32} (h : SC μ b w n) : μ.1 b 6 = w 0 9 := h.2.2.2.2.2.2.1
theorem SC.sed {μ : j_M} {b n : Nat} {w : Nat → Nat → Int32} (h : SC μ b w n) : μ.1 b 7 = w 0 10 := h.2.2.2.2.2.2.2
theorem LK.k {μ : j_M} {x l : Nat} {w : Nat → Nat → Int32} (h : LK μ x w l) : μ.1 x 1 = w 2 l := h.1
theorem LK.a {μ : j_M} {x l : Nat} {w : Nat → Nat → Int32} (h : LK μ x w l) : μ.1 x 2 = w 3 l := h.2.1
theorem LK.g {μ : j_M} {x l : Nat} {w : Nat → Nat → Int32} (h : LK μ x w l) : μ.1 x 3 = w 4 l := h.2.2.1
theorem LK.li {μ : j_M} {x l : Nat} {w : Nat → Nat → Int32} (h : LK μ x w l) : μ.1 x 4 = w 5 l := h.2.2.2.1
theorem LK.c {μ : j_M} {x l : Nat} {w : Nat → Nat → Int32} (h : LK μ x w l) : μ.1 x 5 = w 6 l := h.2.2.2.2.1
theorem LK.sh {μ : j_M} {x l : Nat} {w : Nat → Nat → Int32} (h : LK μ x w l) : μ.1 x 6 = w 7 l := h.2.2.2.2.2.1
theorem LK.ha {μ : j_M} {x l : Nat} {w : Nat → Nat → Int32} (h : LK μ x w l) : ∀ s, s < 8 → μ.1 (x + 1) s = w 8 (8 * l + s) := h.2.2.2.2.2.2
theorem LK.of {μ m : j_M} {x l : Nat} {w : Nat → Nat → Int32} (h : LK μ x w l) (e : ∀ c j, x ≤ c → c ≤ x + 1 → m.1 c j = μ.1 c j) : LK m x w l := ⟨(e x 1 (by omega) (by omega)).trans h.k, (e x 2 (by omega) (by omega)).trans h.a, (e x 3 (by omega) (by omega)).trans h.g, (e x 4 (by omega) (by omega)).trans h.li, (e x 5 (by omega) (by omega)).trans h.c, (e x 6 (by omega) (by omega)).trans h.sh, fun s hs => (e (x + 1) s (by omega) (by omega)).trans (h.ha s hs)⟩
theorem SC.of {μ m : j_M} {b n : Nat} {w : Nat → Nat → Int32} (h : SC μ b w n) (hn : n ≤ 8) (e : ∀ c j, b ≤ c → c < b + 21 → m.1 c j = μ.1 c j) : SC m b w n := ⟨fun p hp => (e _ p (by omega) (by omega)).trans (h.srt p hp), fun s hs => (e _ s (by omega) (by omega)).trans (h.plw s hs), fun j hj => (e _ j (by omega) (by omega)).trans (h.ord j hj), fun l hl => (h.lk l hl).of (fun c j h1 h2 => e c j (by omega) (by omega)), (e b 4 (by omega) (by omega)).trans h.fil, (e b 5 (by omega) (by omega)).trans h.cnt, (e b 6 (by omega) (by omega)).trans h.evs, (e b 7 (by omega) (by omega)).trans h.sed⟩
/-- a scene with its bound -/
def SQ (μ : j_M) (b : Nat) (w : Nat → Nat → Int32) (n : Nat) : Prop := SC μ b w n ∧ n ≤ 8
theorem SQ_pI {μ : j_M} {b n c j : Nat} {v : Int32} {w : Nat → Nat → Int32} (h : SQ μ b w n) (hc : ¬ (b ≤ c ∧ c < b + 21)) : SQ (j_pI μ c j v) b w n := ⟨h.1.of h.2 (fun x y h1 h2 => j_pI_off (by omega)), h.2⟩
theorem SQ_F {P : Nat → Nat → Prop} {μ m : j_M} {b n : Nat} {w : Nat → Nat → Int32} (h : SQ μ b w n) (hF : Fm P μ m) (hP : ∀ c j, P c j → ¬ (b ≤ c ∧ c < b + 21)) : SQ m b w n := ⟨h.1.of h.2 (fun x y h1 h2 => hF.1 x y (fun z => hP x y z ⟨h1, h2⟩)), h.2⟩
abbrev PE (e c j : Nat) : Prop := c = e ∨ c = e + 1
abbrev PC (b c j : Nat) : Prop := b ≤ c ∧ c < b + 21
abbrev PX (c j : Nat) : Prop := (22 ≤ c ∧ c ≤ 42) ∨ (64 ≤ c ∧ c ≤ 100) ∨ (c = 101 ∧ 2 ≤ j)
/-- a shelf -/
def SF (μ ν : j_M) (s : Nat) : Prop := μ.1 (104 + 2 * s) 1 = ν.1 10 s ∧ (inQ 5 (ν.1 10 s) = true → μ.1 (104 + 2 * s) 2 = ν.1 11 s) ∧ ∀ j, j < 40 → μ.2 (105 + 2 * s) j = ν.2 12 (40 * s + j)
def TQ (μ ν : j_M) : Prop := μ.1 101 1 = ν.1 0 11 ∧ ∀ j, j < 250 → μ.1 102 j = ν.1 9 j
def RF (μ ν : j_M) : Prop := ∀ j, j < 7 → μ.1 120 j = ν.1 13 j
def KQ (μ ν : j_M) : Prop := μ.1 0 3 = ν.1 0 21 ∧ (ν.1 0 21 = 1 → SC μ 43 (wold ν.1) (ix (wold ν.1 0 1)))
/-- the class's memory μ holds what the reference's memory ν holds -/
def Rel (μ ν : j_M) : Prop := SC μ 1 ν.1 (nn ν) ∧ (∀ s, s < 8 → SF μ ν s) ∧ TQ μ ν ∧ RF μ ν ∧ KQ μ ν
theorem Rel.sc {μ ν : j_M} (h : Rel μ ν) : SC μ 1 ν.1 (nn ν) := h.1
theorem Rel.sf {μ ν : j_M} (h : Rel μ ν) : ∀ s, s < 8 → SF μ ν s := h.2.1
theorem Rel.tq {μ ν : j_M} (h : Rel μ ν) : TQ μ ν := h.2.2.1
theorem Rel.rf {μ ν : j_M} (h : Rel μ ν) : RF μ ν := h.2.2.2.1
theorem Rel.kq {μ ν : j_M} (h : Rel μ ν) : KQ μ ν := h.2.2.2.2
theorem MI.n8 {ν : j_M} (h : MI ν) : nn ν ≤ 8 := by
  obtain ⟨n, hW, -⟩ := h
  rw [nn_eq hW.1 hW.2.1]; exact hW.2.1
theorem MI.o8 {ν : j_M} (h : MI ν) (h1 : ν.1 0 21 = 1) : ix (wold ν.1 0 1) ≤ 8 := by
  obtain ⟨n, hW, -, -, h2⟩ := h
  rcases h2 with h2 | ⟨-, n0, h2⟩
  · rw [h2] at h1; exact absurd h1 (by decide)
  · rw [h2.1, ix_nI (by have := h2.2.1; omega)]; exact h2.2.1
/-- what lies outside of a scene's, shelf's .. cells is nobody's business -/
theorem Rel.X {P : Nat → Nat → Prop} {μ m ν : j_M} (hM : MI ν) (h : Rel μ ν) (hF : Fm P μ m) (hP : ∀ c j, P c j → PX c j) : Rel m ν := by
  have e : ∀ c j, ¬ PX c j → m.1 c j = μ.1 c j := fun c j q => hF.1 c j (fun z => q (hP c j z))
  refine ⟨h.sc.of hM.n8 (fun c j h1 h2 => e c j (by omega)), fun s hs => ?_, ⟨(e _ _ (by omega)).trans h.tq.1, fun j hj => (e _ _ (by omega)).trans (h.tq.2 j hj)⟩, fun j hj => (e _ _ (by omega)).trans (h.rf j hj), (e _ _ (by omega)).trans h.kq.1, fun z => (h.kq.2 z).of (hM.o8 z) (fun c j h1 h2 => e c j (by omega))⟩
  obtain ⟨h1, h2, h3⟩ := h.sf s hs
  refine ⟨(e _ _ (by omega)).trans h1, fun z => (e _ _ (by omega)).trans (h2 z), fun j hj => ?_⟩
  rw [hF.2]
  exact h3 j hj
theorem Rel.self {μ ν : j_M} (h : Rel μ ν) : Rel μ ν := h
theorem nn_off {ν : j_M} {c j : Nat} {v : Int32} (h : ¬ (0 = c ∧ 1 = j)) : nn (j_pI ν c j v) = nn ν := by
  unfold nn
  rw [j_pI_off h]
theorem wold_off {ν : j_M} {c j : Nat} {v : Int32} (h : c ≠ 14) : wold (j_pI ν c j v).1 = wold ν.1 := by
  funext a b
  show (j_pI ν c j v).1 14 _ = ν.1 14 _
  exact j_pI_off (by omega)
theorem pwB_congr {w w' : Nat → Nat → Int32} (h : ∀ p, p < 12 → w' 1 p = w 1 p) (s : Nat) : pwB w' s = pwB w s := bK_congr (fun p hp => by rw [h p hp])
theorem lfB_congr {t u : Nat → Int32} (h : ∀ p, p < 12 → t p = u p) : lfB t = lfB u := bK_congr (fun p hp => by rw [h p hp])
theorem LK.w {μ : j_M} {x l : Nat} {w w' : Nat → Nat → Int32} (h : LK μ x w l) (h1 : ∀ c, 2 ≤ c → c ≤ 7 → w' c l = w c l) (h2 : ∀ s, s < 8 → w' 8 (8 * l + s) = w 8 (8 * l + s)) : LK μ x w' l := ⟨h.k.trans (h1 2 (by omega) (by omega)).symm, h.a.trans (h1 3 (by omega) (by omega)).symm, h.g.trans (h1 4 (by omega) (by omega)).symm, h.li.trans (h1 5 (by omega) (by omega)).symm, h.c.trans (h1 6 (by omega) (by omega)).symm, h.sh.trans (h1 7 (by omega) (by omega)).symm, fun s hs => (h.ha s hs).trans (h2 s hs).symm⟩
theorem SC.w {μ : j_M} {b n : Nat} {w w' : Nat → Nat → Int32} (h : SC μ b w n) (h1 : ∀ p, p < 12 → w' 1 p = w 1 p) (h4 : w' 4 = w 4) (hl : ∀ c l, 2 ≤ c → c ≤ 7 → l < n → w' c l = w c l) (h8 : ∀ j, j < 8 * n → w' 8 j = w 8 j) (h9 : w' 0 9 = w 0 9) (hA : w' 0 10 = w 0 10) : SC μ b w' n := ⟨fun p hp => (h.srt p hp).trans (h1 p hp).symm, fun s hs => (h.plw s hs).trans (pwB_congr h1 s).symm, fun j hj => by rw [h.ord j hj]; unfold OA; rw [h4], fun l hlt => (h.lk l hlt).w (fun c a b => hl c l a b hlt) (fun s hs => h8 _ (by omega)), h.fil.trans (lfB_congr h1).symm, h.cnt, h.evs.trans h9.symm, h.sed.trans hA.symm⟩
theorem Rel.rj {μ ν : j_M} {k : Nat} (hM : MI ν) (h : Rel μ ν) (hk : k < 7) : Rel (j_pI μ 120 k (μ.1 120 k + 1)) (j_pI ν 13 k (ν.1 13 k + 1)) := by
  have e : ∀ c j, c ≠ 120 → (j_pI μ 120 k (μ.1 120 k + 1)).1 c j = μ.1 c j := fun c j q => j_pI_off (by omega)
  have f : ∀ c j, c ≠ 13 → (j_pI ν 13 k (ν.1 13 k + 1)).1 c j = ν.1 c j := fun c j q => j_pI_off (by omega)
  have hnn : nn (j_pI ν 13 k (ν.1 13 k + 1)) = nn ν := nn_off (by omega)
  refine ⟨?_, fun s hs => ?_, ⟨(e _ _ (by omega)).trans (h.tq.1.trans (f _ _ (by omega)).symm), fun j hj => (e _ _ (by omega)).trans ((h.tq.2 j hj).trans (f _ _ (by omega)).symm)⟩, fun j hj => ?_, (e _ _ (by omega)).trans (h.kq.1.trans (f _ _ (by omega)).symm), fun z => ?_⟩
  · rw [hnn]
    refine (h.sc.of hM.n8 (fun c j h1 h2 => e c j (by omega))).w (fun p _ => f _ _ (by omega)) (funext fun j => f _ _ (by omega)) (fun c l h1 h2 h3 => f _ _ (by omega)) (fun j _ => f _ _ (by omega)) (f _ _ (by omega)) (f _ _ (by omega))
  · obtain ⟨h1, h2, h3⟩ := h.sf s hs
    refine ⟨(e _ _ (by omega)).trans (h1.trans (f _ _ (by omega)).symm), fun z => ?_, h3⟩
    rw [f 10 s (by omega)] at z
    exact (e _ _ (by omega)).trans ((h2 z).trans (f _ _ (by omega)).symm)
  · by_cases q : j = k
    · subst q; rw [j_pI_at, j_pI_at, h.rf j hj]
    · rw [j_pI_off (by omega), j_pI_off (by omega), h.rf j hj]
  · rw [f 0 21 (by omega)] at z
    rw [wold_off (by omega)]
    exact (h.kq.2 z).of (hM.o8 z) (fun c j h1 h2 => e c j (by omega))
theorem inQ_bits {k : Nat} (hk : k ≤ 12) {x : Int32} : inQ (2 ^ k) x = true ↔ ∀ i, k ≤ i → i < 32 → tb x i = false := by
  have hp : 2 ^ k ≤ 4096 := Nat.pow_le_pow_right (by decide) hk
  refine ⟨fun h i h1 h2 => ?_, fun h => ?_⟩
  · obtain ⟨m, h3, rfl⟩ := inR_of (by omega) h
    rw [tb_nI (by omega)]
    exact Nat.testBit_lt_two_pow (Nat.lt_of_lt_of_le h3 (Nat.pow_le_pow_right (by decide) h1))
  · have h2 : x.toBitVec.toNat < 2 ^ k := by
      refine Nat.lt_pow_two_of_testBit _ (fun i hi => ?_)
      by_cases h3 : i < 32
      · exact h i hi h3
      · exact Nat.testBit_lt_two_pow (Nat.lt_of_lt_of_le x.toBitVec.isLt (Nat.pow_le_pow_right (by decide) (by omega)))
    have h4 : x = nI x.toBitVec.toNat := Int32.toBitVec_inj.mp (by
      show x.toBitVec = BitVec.ofNat 32 x.toBitVec.toNat
      simp)
    rw [h4]
    exact (inR_iff (by omega)).mpr ⟨_, h2, rfl⟩
theorem tb_pm {k : Nat} (hk : k ≤ 12) (i : Nat) (hi : i < 32) : tb (nI (2 ^ k - 1)) i = decide (i < k) := by
  have hp : 2 ^ k ≤ 4096 := Nat.pow_le_pow_right (by decide) hk
  rw [tb_nI (by omega), Nat.testBit_two_pow_sub_one]
theorem isS_iff {k : Nat} (hk : k ≤ 12) {x : Int32} : (x &&& (nI (2 ^ k - 1) ^^^ (-1)) = 0) = (inQ (2 ^ k) x = true) := by
  rw [propext (inQ_bits hk)]
  refine propext ⟨fun h i h1 h2 => ?_, fun h => tb_ext (fun i hi => ?_)⟩
  · have h3 : tb (x &&& (nI (2 ^ k - 1) ^^^ (-1))) i = tb 0 i := by rw [h]
    rw [tb_and, tb_xor, tb_m1 h2, tb_pm hk i h2, tb_0, decide_eq_false (by omega)] at h3
    simpa using h3
  · rw [tb_and, tb_xor, tb_m1 hi, tb_pm hk i hi, tb_0]
    by_cases q : i < k
    · simp [q]
    · rw [h i (by omega) hi]; rfl
