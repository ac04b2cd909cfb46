/-! PURE WORDS of the yard -/
def b01 (p : Prop) [Decidable p] : Int32 := if p then 1 else 0
theorem b01_z (p : Prop) [Decidable p] : b01 p = 0 ∨ b01 p = 1 := by unfold b01; split <;> simp
theorem b01_t {p : Prop} [Decidable p] (h : p) : b01 p = 1 := by simp [b01, h]
theorem b01_f {p : Prop} [Decidable p] (h : ¬ p) : b01 p = 0 := by simp [b01, h]
theorem b01_eq0 {p : Prop} [Decidable p] : b01 p = 0 ↔ ¬ p := by unfold b01; split <;> simp_all
/-- 0 to 999 -/
def kb (x : Int32) : Int32 := if 0 < (if x < 999 then x else 999) then (if x < 999 then x else 999) else 0
def adv (x : Int32) : Int32 := x * 1103515245 + 12345
/-- a draw of n from the seed -/
def dr (x : Int32) (n : Nat) : Nat := x.toBitVec.toNat / 65536 % 32768 % n
theorem dr_lt {x : Int32} {n : Nat} (h : 0 < n) : dr x n < n := Nat.mod_lt _ h
theorem dr_u (x : Int32) : (x.toUInt32 >>> ((16 : Int32).toUInt32 &&& Int32.toUInt32 31)).toInt32 &&& 32767 = nI (x.toBitVec.toNat / 65536 % 32768) := by
  rw [pk_and _ 15 (by decide), pk_ushr x 16 16 (by decide)]
theorem nI_rem {a n : Nat} (ha : a < 32768) (h : 0 < n) (hn : n < 2 ^ 31) : nI a - nI a / nI n * nI n = nI (a % n) := pk_rem (by omega) h hn
/-- the first of the greatest among the first n -/
def bst (f : Nat → Int32) : Nat → Nat
  | 0 => 0
  | n + 1 => if f (bst f n) < f n then n else bst f n
theorem bst_lt {f : Nat → Int32} : ∀ {n : Nat}, 0 < n → bst f n < n
  | 0, h => absurd h (by omega)
  | n + 1, _ => by
    unfold bst
    split
    · omega
    · cases n with
      | zero => simp [bst]
      | succ n => have := @bst_lt f (n + 1) (by omega); omega
theorem bst_congr {f f' : Nat → Int32} : ∀ {n : Nat}, (∀ j, j < n → f j = f' j) → bst f n = bst f' n
  | 0, _ => rfl
  | 1, h => by simp [bst, h 0 (by omega)]
  | n + 2, h => by
    have ih : bst f (n + 1) = bst f' (n + 1) := bst_congr (fun j hj => h j (by omega))
    have hl := @bst_lt f (n + 1) (by omega)
    show (if f (bst f (n + 1)) < f (n + 1) then n + 1 else bst f (n + 1)) = (if f' (bst f' (n + 1)) < f' (n + 1) then n + 1 else bst f' (n + 1))
    rw [h (n + 1) (by omega), ← ih, h (bst f (n + 1)) (by omega)]
/-- its number, or -1 if none is above 0 -/
def hvy (f : Nat → Int32) (n : Nat) : Int32 := if 0 < f (bst f n) then nI (bst f n) else -1
/-- what the loop of the class has found among the first i: (best, most) -/
def hvs (f : Nat → Int32) (i : Nat) : Int32 × Int32 := if i = 0 then (-1, 0) else if 0 < f (bst f i) then (nI (bst f i), f (bst f i)) else (-1, 0)
theorem hvs_step {f : Nat → Int32} {i : Nat} : hvs f (i + 1) = if (hvs f i).2 < f i then (nI i, f i) else hvs f i := by
  unfold hvs
  rw [if_neg (by omega)]
  by_cases h0 : i = 0
  · subst h0
    simp only [if_true, bst]
    have : ¬ f 0 < f 0 := fun q => Int32.lt_irrefl q
    simp only [this, if_false]
  · rw [if_neg h0]
    simp only [bst]
    by_cases h1 : f (bst f i) < f i
    · simp only [h1, if_true]
      by_cases h2 : 0 < f (bst f i)
      · have h3 : 0 < f i := Int32.lt_trans h2 h1
        simp [h2, h1, h3]
      · simp only [h2, if_false]
    · simp only [h1, if_false]
      by_cases h2 : 0 < f (bst f i)
      · simp [h2, h1]
      · have h3 : ¬ 0 < f i := fun q => h1 (Int32.lt_of_le_of_lt (Int32.not_lt.mp h2) q)
        simp [h2, h3]
theorem hvs_end {f : Nat → Int32} {n : Nat} (h : 0 < n) : (hvs f n).1 = hvy f n := by
  unfold hvs hvy
  rw [if_neg (by omega)]
  split <;> rfl
/-- those below n of which p holds, by number -/
def here (p : Nat → Bool) (n : Nat) : List Nat := (List.range n).filter p
theorem here_succ (p : Nat → Bool) (n : Nat) : here p (n + 1) = here p n ++ (if p n then [n] else []) := by
  unfold here
  rw [List.range_succ, List.filter_append]
  congr 1
  cases h : p n <;> simp [h]
theorem here_len (p : Nat → Bool) (n : Nat) : (here p n).length ≤ n := by
  unfold here
  exact Nat.le_trans (List.length_filter_le _ _) (by simp)
theorem here_mem {p : Nat → Bool} {n c : Nat} : c ∈ here p n ↔ c < n ∧ p c = true := by simp [here, List.mem_filter]
theorem here_congr {p p' : Nat → Bool} {n : Nat} (h : ∀ c, c < n → p c = p' c) : here p n = here p' n := by
  unfold here
  exact List.filter_congr (fun c hc => h c (List.mem_range.mp hc))
