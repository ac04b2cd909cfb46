/-! THE REFERENCE'S READER: words as numbers, pure -/
def hv (T : Wr) (n s : Nat) : Int32 := if s < n then T s else 0
/-- letters as one number -/
def enL (f : Nat → Nat) : Nat → Nat
  | 0 => 0
  | m + 1 => 32 * enL f m + f m
theorem enL_inj {f f' : Nat → Nat} : ∀ {m m' : Nat}, (∀ j, j < m → 1 ≤ f j ∧ f j ≤ 31) → (∀ j, j < m' → 1 ≤ f' j ∧ f' j ≤ 31) → enL f m = enL f' m' → m = m' ∧ ∀ j, j < m → f j = f' j
  | 0, 0, _, _, _ => ⟨rfl, fun j hj => absurd hj (by omega)⟩
  | 0, m' + 1, _, h, e => by
    have := (h m' (by omega)).1
    have e' : 0 = 32 * enL f' m' + f' m' := e
    omega
  | m + 1, 0, h, _, e => by
    have := (h m (by omega)).1
    have e' : 32 * enL f m + f m = 0 := e
    omega
  | m + 1, m' + 1, h, h', e => by
    have e' : 32 * enL f m + f m = 32 * enL f' m' + f' m' := e
    have a := h m (by omega)
    have b := h' m' (by omega)
    obtain ⟨e1, e2⟩ := enL_inj (m := m) (m' := m') (fun j hj => h j (by omega)) (fun j hj => h' j (by omega)) (by omega)
    subst e1
    refine ⟨rfl, fun j hj => ?_⟩
    by_cases z : j = m
    · subst z; omega
    · exact e2 j (by omega)
theorem enL_lt {f : Nat → Nat} : ∀ {m : Nat}, (∀ j, j < m → f j ≤ 31) → enL f m < 32 ^ m
  | 0, _ => Nat.zero_lt_one
  | m + 1, h => by
    have ih := enL_lt (f := f) (m := m) (fun j hj => h j (by omega))
    have := h m (by omega)
    show 32 * enL f m + f m < 32 ^ (m + 1)
    rw [Nat.pow_succ]; omega
def cd (x : Int32) : Nat := x.toNatClampNeg - 96
theorem lt_cd {x : Int32} (h : ltB x = true) : 97 ≤ x.toNatClampNeg ∧ x.toNatClampNeg ≤ 122 ∧ x = nI x.toNatClampNeg := by
  have h' := of_decide_eq_true h
  obtain ⟨n, h1, h2⟩ := nI_ofNonneg (Int32.le_trans (by decide) h'.1)
  subst h2
  rw [nI_clamp h1]
  have a : 97 ≤ n := (nI_leI (by decide) h1).mp h'.1
  have b : n ≤ 122 := (nI_leI h1 (by decide)).mp h'.2
  exact ⟨a, b, rfl⟩
theorem cd_ok {x : Int32} (h : ltB x = true) : 1 ≤ cd x ∧ cd x ≤ 31 := by
  have := lt_cd h; unfold cd; omega
/-- one letter more -/
theorem en_step {v : Nat} {x : Int32} (hv : v < 2 ^ 25) (h : ltB x = true) : (nI v <<< ((5 : Int32) &&& 31)) ||| (x - 96) = nI (32 * v + cd x) := by
  obtain ⟨h1, h2, h3⟩ := lt_cd h
  have e1 : nI v <<< ((5 : Int32) &&& 31) = nI (32 * v) := by
    apply Int32.toBitVec_inj.mp
    show (nI v).toBitVec <<< (((5 : Int32) &&& 31).toBitVec.smod 32) = (nI (32 * v)).toBitVec
    rw [show (((5 : Int32) &&& 31).toBitVec.smod 32) = 5#32 from by decide]
    show BitVec.ofNat 32 v <<< 5#32 = BitVec.ofNat 32 (32 * v)
    apply BitVec.eq_of_toNat_eq
    simp only [BitVec.shiftLeft_eq', BitVec.toNat_shiftLeft, BitVec.toNat_ofNat, Nat.shiftLeft_eq]
    rw [show (5 : Nat) % 2 ^ 32 = 5 from by decide, Nat.mod_eq_of_lt (show v < 2 ^ 32 by omega), show (2 : Nat) ^ 5 = 32 from by decide, Nat.mul_comm]
  have e2 : x - 96 = nI (cd x) := by
    obtain ⟨m, hm⟩ : ∃ m, m = x.toNatClampNeg := ⟨_, rfl⟩
    unfold cd
    rw [← hm] at h1 h2 h3 ⊢
    rw [h3]
    have := nI_add (m - 96) 96
    rw [show m - 96 + 96 = m by omega] at this
    rw [← this]
    show nI (m - 96) + 96 - 96 = _
    rw [Int32.add_sub_cancel]
  rw [e1, e2]
  have c := cd_ok h
  apply Int32.toBitVec_inj.mp
  rw [Int32.toBitVec_or]
  show BitVec.ofNat 32 (32 * v) ||| BitVec.ofNat 32 (cd x) = BitVec.ofNat 32 (32 * v + cd x)
  apply BitVec.eq_of_toNat_eq
  rw [BitVec.toNat_or]
  simp only [BitVec.toNat_ofNat]
  rw [Nat.mod_eq_of_lt (by omega), Nat.mod_eq_of_lt (by omega), Nat.mod_eq_of_lt (by omega)]
  rw [show 32 * v = v <<< 5 by rw [Nat.shiftLeft_eq]; omega]
  rw [← Nat.shiftLeft_add_eq_or_of_lt (show cd x < 2 ^ 5 by omega)]
/-- the number of the word at s -/
def wcN (T : Wr) (n s : Nat) : Nat := if whR ltB T s (n - s) - s ≤ 6 then enL (fun j => cd (T (s + j))) (whR ltB T s (n - s) - s) else 0
def wdW : List Nat := [12748366, 16322738, 409189, 448116, 294, 12748404, 441972, 1253, 21239365, 19176724, 20201198, 777297172, 21016947, 498, 1476, 14836]
def wdC (i j : Nat) : Nat := cd ((wdByt.getD i []).getD j 0)
theorem wd_e : ∀ i, i < 16 → wdW.getD i 0 = enL (wdC i) (wdLen.getD i 0) := by decide
theorem wd_all : ∀ i, i < 16 → 1 ≤ wdLen.getD i 0 ∧ wdLen.getD i 0 ≤ 6 ∧ ∀ j, j < wdLen.getD i 0 → 1 ≤ wdC i j ∧ wdC i j ≤ 31 ∧ ltB ((wdByt.getD i []).getD j 0) = true := by decide
theorem wcN_lt {T : Wr} {n s : Nat} : wcN T n s < 2 ^ 30 := by
  unfold wcN
  split
  · rename_i h
    have hr := whR_le (f := ltB) (T := T) (r := n - s) (p := s)
    have := enL_lt (f := fun j => cd (T (s + j))) (m := whR ltB T s (n - s) - s) (fun j hj => (cd_ok (whR_in (p := s) (r := n - s) (by omega) (by omega))).2)
    have h2 : 32 ^ (whR ltB T s (n - s) - s) ≤ 32 ^ 6 := Nat.pow_le_pow_right (by decide) h
    have : (32 : Nat) ^ 6 = 2 ^ 30 := by decide
    omega
  · decide
theorem isW_iff {T : Wr} {n s i : Nat} : isW T n s i = true ↔ tkK T n s = 2 ∧ tkE T n s = s + wdLen.getD i 0 ∧ ∀ j, j < wdLen.getD i 0 → T (s + j) = (wdByt.getD i []).getD j 0 := by unfold isW; exact decide_eq_true_iff
theorem enW_pos {i : Nat} (hi : i < 16) : enL (wdC i) (wdLen.getD i 0) ≠ 0 := by
  obtain ⟨h2, h3, h4⟩ := wd_all i hi
  obtain ⟨m, hm⟩ : ∃ m, wdLen.getD i 0 = m + 1 := ⟨wdLen.getD i 0 - 1, by omega⟩
  have := (h4 m (by omega)).1
  rw [hm]
  show 32 * enL (wdC i) m + wdC i m ≠ 0
  omega
theorem lt_nd {x : Int32} (h : ltB x = true) : ¬ dgB x = true := by
  intro z
  have a := of_decide_eq_true z
  have b := of_decide_eq_true h
  exact absurd (Int32.le_trans b.1 a.2) (by decide)
theorem cd_inj {x y : Int32} (h : ltB x = true) (h' : ltB y = true) (e : cd x = cd y) : x = y := by
  have p := lt_cd h
  have q := lt_cd h'
  unfold cd at e
  have e2 : x.toNatClampNeg = y.toNatClampNeg := by omega
  rw [p.2.2, e2, ← q.2.2]
theorem wcN_1 {T : Wr} {n s i : Nat} (hi : i < 16) (e : wcN T n s = enL (wdC i) (wdLen.getD i 0)) : isW T n s i = true := by
  obtain ⟨h2, h3, h4⟩ := wd_all i hi
  obtain ⟨r, hr0⟩ : ∃ r, r = whR ltB T s (n - s) := ⟨_, rfl⟩
  have hr := whR_le (f := ltB) (T := T) (r := n - s) (p := s)
  have hin : ∀ j, j < r - s → ltB (T (s + j)) = true := fun j hj => whR_in (p := s) (r := n - s) (by omega) (by omega)
  unfold wcN at e
  rw [← hr0] at e hr
  by_cases h6 : r - s ≤ 6
  · rw [if_pos h6] at e
    obtain ⟨e1, e2⟩ := enL_inj (fun j hj => cd_ok (hin j hj)) (fun j hj => ⟨(h4 j hj).1, (h4 j hj).2.1⟩) e
    have hlt : s < n := by omega
    have hl0 : ltB (T s) = true := hin 0 (by omega)
    rw [isW_iff]
    refine ⟨?_, ?_, fun j hj => ?_⟩
    · unfold tkK; rw [if_neg (by omega), if_neg (lt_nd hl0), if_pos hl0]
    · unfold tkE; rw [if_neg (by omega), if_neg (lt_nd hl0), if_pos hl0, ← hr0]; omega
    · exact cd_inj (hin j (by omega)) (h4 j hj).2.2 (e2 j (by omega))
  · rw [if_neg h6] at e
    exact absurd e.symm (enW_pos hi)
theorem enL_cg {f f' : Nat → Nat} : ∀ m, (∀ j, j < m → f j = f' j) → enL f m = enL f' m
  | 0, _ => rfl
  | m + 1, h => by
    show 32 * enL f m + f m = 32 * enL f' m + f' m
    rw [enL_cg m (fun j hj => h j (by omega)), h m (by omega)]
theorem wcN_2 {T : Wr} {n s i : Nat} (hi : i < 16) (h : isW T n s i = true) : wcN T n s = enL (wdC i) (wdLen.getD i 0) := by
  obtain ⟨h2, h3, h4⟩ := wd_all i hi
  have hs := isW_lt h
  obtain ⟨k1, k2, k3⟩ := isW_iff.mp h
  have hd0 : ¬ dgB (T s) = true := by
    intro z; unfold tkK at k1; rw [if_neg (by omega), if_pos z] at k1; cases k1
  have hl0 : ltB (T s) = true := Decidable.byContradiction (fun z => by unfold tkK at k1; rw [if_neg (by omega), if_neg hd0, if_neg z] at k1; cases k1)
  have ke : whR ltB T s (n - s) = s + wdLen.getD i 0 := by
    rw [← k2]; unfold tkE; rw [if_neg (by omega), if_neg hd0, if_pos hl0]
  unfold wcN
  rw [ke, if_pos (by omega), show s + wdLen.getD i 0 - s = wdLen.getD i 0 by omega]
  refine enL_cg _ (fun j hj => ?_)
  rw [k3 j hj]; rfl
theorem wcN_is0 {T : Wr} {n s i : Nat} (hi : i < 16) : wcN T n s = enL (wdC i) (wdLen.getD i 0) ↔ isW T n s i = true := ⟨wcN_1 hi, wcN_2 hi⟩
theorem wcN_is {T : Wr} {n s i : Nat} (hi : i < 16) : wcN T n s = wdW.getD i 0 ↔ isW T n s i = true := by rw [wd_e i hi]; exact wcN_is0 hi
theorem wcI {T : Wr} {n s i : Nat} {W : Int32} (hi : i < 16) (hW : W = nI (wdW.getD i 0)) : nI (wcN T n s) = W ↔ isW T n s i = true := by
  have b : wdW.getD i 0 < 2 ^ 31 := by
    have : ∀ i, i < 16 → wdW.getD i 0 < 2 ^ 31 := by decide
    exact this i hi
  rw [hW, nI_eq (by have := wcN_lt (T := T) (n := n) (s := s); omega) b]
  exact wcN_is hi
theorem isC_hv {T : Wr} {n s : Nat} {c : Int32} (h0 : ¬ c = 0) (h1 : dgB c = false) (h2 : ltB c = false) : isC T n s c = true ↔ hv T n s = c := by
  unfold isC
  rw [decide_eq_true_iff]
  by_cases z : n ≤ s
  · have e1 : tkK T n s = 0 := by unfold tkK; rw [if_pos z]
    have e2 : hv T n s = 0 := by unfold hv; rw [if_neg (by omega)]
    rw [e1, e2]
    exact ⟨fun y => absurd y.1 (by decide), fun y => absurd y.symm h0⟩
  · have e2 : hv T n s = T s := by unfold hv; rw [if_pos (by omega)]
    rw [e2]
    constructor
    · exact fun y => y.2
    · intro y
      refine ⟨?_, y⟩
      unfold tkK
      rw [if_neg z, y, if_neg (by rw [h1]; decide), if_neg (by rw [h2]; decide)]
theorem hv_dg {T : Wr} {n s : Nat} : dgB (hv T n s) = true ↔ tkK T n s = 1 := by
  unfold hv tkK
  by_cases z : n ≤ s
  · rw [if_pos z, if_neg (by omega)]; decide
  · rw [if_neg z, if_pos (by omega)]
    by_cases d : dgB (T s) = true
    · simp [d]
    · rw [if_neg d]; split <;> simp [d]
theorem tkE_lt {T : Wr} {n s : Nat} (h : ltB (T s) = true) (hs : s < n) : tkE T n s = whR ltB T s (n - s) := by
  have hd0 : ¬ dgB (T s) = true := by
    intro z
    have a := of_decide_eq_true z
    have b := of_decide_eq_true h
    exact absurd (Int32.le_trans b.1 a.2) (by decide)
  unfold tkE; rw [if_neg (by omega), if_neg hd0, if_pos h]
theorem isW_E {T : Wr} {n s i : Nat} (h : isW T n s i = true) : tkE T n s = whR ltB T s (n - s) := by
  have hs := isW_lt h
  have k1 := (of_decide_eq_true h).1
  have hd0 : ¬ dgB (T s) = true := by
    intro z; unfold tkK at k1; rw [if_neg (by omega), if_pos z] at k1; cases k1
  refine tkE_lt (Decidable.byContradiction (fun z => ?_)) hs
  unfold tkK at k1; rw [if_neg (by omega), if_neg hd0, if_neg z] at k1; cases k1
theorem isC_E {T : Wr} {n s : Nat} {c : Int32} (h : isC T n s c = true) : tkE T n s = s + 1 := by
  have hs := isC_lt h
  have k1 := (of_decide_eq_true h).1
  have hd0 : ¬ dgB (T s) = true := by
    intro z; unfold tkK at k1; rw [if_neg (by omega), if_pos z] at k1; cases k1
  have hl0 : ¬ ltB (T s) = true := by
    intro z; unfold tkK at k1; rw [if_neg (by omega), if_neg hd0, if_pos z] at k1; cases k1
  unfold tkE; rw [if_neg (by omega), if_neg hd0, if_neg hl0]
theorem dg_E {T : Wr} {n s : Nat} (h : tkK T n s = 1) : s < n ∧ dgB (T s) = true ∧ tkE T n s = whR dgB T s (n - s) := by
  have hs : s < n := by
    rcases Nat.lt_or_ge s n with z | z
    · exact z
    · unfold tkK at h; rw [if_pos z] at h; cases h
  have hd : dgB (T s) = true := Decidable.byContradiction (fun z => by
    unfold tkK at h; rw [if_neg (by omega), if_neg z] at h; split at h <;> cases h)
  exact ⟨hs, hd, by unfold tkE; rw [if_neg (by omega), if_pos hd]⟩
/-- skipping twice is skipping once -/
theorem skp_at {T : Wr} {n p : Nat} (h : p ≤ n) : skp T n (skp T n p) = skp T n p := by
  have hl := (skp_le (T := T) (n := n) (p := p)).2 h
  unfold skp at hl ⊢
  refine whR_eq (Nat.le_refl _) (by omega) (fun i h1 h2 => absurd h2 (by omega)) (fun hlt => ?_)
  exact whR_at (by omega)

