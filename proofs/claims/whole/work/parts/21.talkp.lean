/-! A TALK, as pure words on the row w of a world -/
def rN (j : Nat) : Nat := ([0, 1, 2, 0, 2, 1, 1, 0, 2, 1, 2, 0, 2, 0, 1, 2, 1, 0] : List Nat).getD j 0
theorem rN_ok : ∀ j, j < 18 → zRO j = nI (rN j) ∧ rN j < 3 := by decide
theorem zRO_rN {o k : Nat} (ho : o < 6) (hk : k < 3) : zRO (o * 3 + k) = nI (rN (o * 3 + k)) := (rN_ok _ (by omega)).1
theorem rN_lt {o k : Nat} (ho : o < 6) (hk : k < 3) : rN (o * 3 + k) < 3 := (rN_ok _ (by omega)).2
theorem rN_inj : ∀ o, o < 6 → ∀ i, i < 3 → ∀ j, j < 3 → rN (o * 3 + i) = rN (o * 3 + j) → i = j := by decide
theorem rN_sur : ∀ o, o < 6 → ∀ r, r < 3 → rN (o * 3 + 0) = r ∨ rN (o * 3 + 1) = r ∨ rN (o * 3 + 2) = r := by decide
/-- the place of a part of the meaning in an order -/
def pN (o r : Nat) : Nat := if rN (o * 3 + 0) = r then 0 else if rN (o * 3 + 1) = r then 1 else 2
theorem pN_rN : ∀ o, o < 6 → ∀ k, k < 3 → pN o (rN (o * 3 + k)) = k := by decide
theorem pN_lt (o r : Nat) : pN o r < 3 := by unfold pN; (repeat' split) <;> omega
def con (r v : Nat) : Nat := if r = 1 then 4 + v else v
theorem con_lt {r v : Nat} (h : v < 4) : con r v < 8 := by unfold con; split <;> omega
theorem con_nI (r v : Nat) (hr : r < 3) : (if nI r = 1 then 4 + nI v else nI v) = nI (con r v) := by
  unfold con
  by_cases h : r = 1
  · subst h; rw [if_pos rfl, if_pos (show nI 1 = 1 from rfl), n4, nI_add]
  · rw [if_neg h, if_neg]
    rw [n1, nI_eq (by omega) (by decide)]; exact h
abbrev Wr : Type := Nat → Int32
def sgB (c p : Nat) : Nat := 56 + 142 * c + 8 + 16 * p
def odB (c : Nat) : Nat := 56 + 142 * c + 136
def ordP (w : Wr) (c : Nat) : Nat × Int32 := pickO (fun s => w (odB c + s)) 6 (w 1)
def sgnP (w : Wr) (c p : Nat) : Nat × Int32 := pickO (fun s => w (sgB c p + s)) 16 (w 1)
/-- a sign's place is told, the seed behind it -/
def say1 (w : Wr) (a o : Nat) (mt : Nat → Nat) (k : Nat) : Nat × Wr := ((sgnP w a (con (rN (o * 3 + k)) (mt (rN (o * 3 + k))))).1, upd w 1 (sgnP w a (con (rN (o * 3 + k)) (mt (rN (o * 3 + k))))).2)
def use1 (w : Wr) (y s : Nat) : Wr := upd w (8 + 16 * y + s) (w (8 + 16 * y + s) + 1)
/-- what is said: order, signs, the row behind it -/
def sayO (w : Wr) (a : Nat) : Nat := (ordP w a).1
def say0W (w : Wr) (a : Nat) : Wr := upd w 1 (ordP w a).2
def sayK (w : Wr) (a : Nat) (mt : Nat → Nat) : Nat → Wr
  | 0 => say0W w a
  | k + 1 => (say1 (sayK w a mt k) a (sayO w a) mt k).2
def sayS (w : Wr) (a : Nat) (mt : Nat → Nat) (k : Nat) : Nat := (say1 (sayK w a mt k) a (sayO w a) mt k).1
def useK (w : Wr) (y : Nat) (s : Nat → Nat) : Nat → Wr
  | 0 => w
  | k + 1 => use1 (useK w y s k) y (s k)
def sayW (w : Wr) (a y : Nat) (mt : Nat → Nat) : Wr := useK (sayK w a mt 3) y (sayS w a mt) 3
theorem sayO_lt (w : Wr) (a : Nat) : sayO w a < 6 := pickO_lt (by decide)
theorem sayS_lt (w : Wr) (a : Nat) (mt : Nat → Nat) (k : Nat) : sayS w a mt k < 16 := pickO_lt (by decide)
/-- worn, seen -/
def wrW (w : Wr) (y s : Nat) : Bool := decide (¬ w (8 + 16 * y + s / 2 * 2) < w 3) && decide (¬ w (8 + 16 * y + (s / 2 * 2 + 1)) < w 3)
def snW (w : Wr) (y s : Nat) : Nat := if wrW w y s then s / 2 * 2 else s
theorem snW_lt {w : Wr} {y s : Nat} (hs : s < 16) : snW w y s < 16 := by unfold snW; split <;> omega
def wsW (w : Wr) (y c p s : Nat) : Int32 := if wrW w y s then w (sgB c p + s / 2 * 2) + w (sgB c p + (s / 2 * 2 + 1)) else w (sgB c p + s)
/-- what is taken for a part: the one whose weight is greatest -/
def tk1 (w : Wr) (y b r s : Nat) : Nat := bst (fun v => wsW w y b (con r v) s) 4
def takO (w : Wr) (b : Nat) : Nat := (ordP w b).1
def takW (w : Wr) (b : Nat) : Wr := upd w 1 (ordP w b).2
def takT (w : Wr) (y b : Nat) (s : Nat → Nat) (r : Nat) : Nat := tk1 (takW w b) y b r (s (pN (takO w b) r))
/-- what is learnt of a row of n weights from B on: the one at x more by V, all others less by V' -/
def lrn (w : Wr) (B n x : Nat) (V V' : Int32 → Int32) : Wr := fun i => if B ≤ i ∧ i < B + n then (if i = B + x then kb (w i + V (w i)) else kb (w i - V' (w i))) else w i
/-- the sum of the n from B on but the one at x -/
def oth (w : Wr) (B x : Nat) : Nat → Int32
  | 0 => 0
  | n + 1 => if n = x then oth w B x n else oth w B x n + w (B + n)
/-- a rule out of what is mostly so -/
def mkR (w : Wr) (b its : Nat) (V3 : Int32 → Int32) : Wr :=
  if w (56 + 142 * b + 4) = 0 ∧ oth w (odB b) its 6 < w (odB b + its) ∧ V3 (w (odB b + its)) ≤ w (odB b + its) then (fun i => if odB b ≤ i ∧ i < odB b + 6 then (if i = odB b + its then 999 else 0) else w i) else w
def lrnS (w : Wr) (y b its : Nat) (s part : Nat → Nat) (V : Nat → Int32 → Int32) (k : Nat) : Wr := lrn w (sgB b (con (rN (its * 3 + k)) (part (rN (its * 3 + k))))) 16 (snW w y (s k)) (V 0) (V 2)
def lrnK (w : Wr) (y b its : Nat) (s part : Nat → Nat) (V : Nat → Int32 → Int32) : Nat → Wr
  | 0 => w
  | k + 1 => lrnS (lrnK w y b its s part V k) y b its s part V k
def lrnW (w : Wr) (y b its : Nat) (s part : Nat → Nat) (V : Nat → Int32 → Int32) : Wr :=
  if w (56 + 142 * b + 4) = 2 then lrnK w y b its s part V 3
  else mkR (lrn (lrnK w y b its s part V 3) (odB b) 6 its (V 1) (V 2)) b its (V 3)
/-- who said it is the stronger -/
def st1 (w : Wr) (i : Nat) : Wr := upd w i (kb (w i + 1))
def strK (w : Wr) (a o : Nat) (s mt : Nat → Nat) : Nat → Wr
  | 0 => w
  | k + 1 => st1 (strK w a o s mt k) (sgB a (con (rN (o * 3 + k)) (mt (rN (o * 3 + k)))) + s k)
def strW (w : Wr) (a o : Nat) (s mt : Nat → Nat) : Wr :=
  if w (56 + 142 * a + 4) = 3 then w
  else if w (56 + 142 * a + 4) = 2 then strK w a o s mt 3
  else st1 (strK w a o s mt 3) (odB a + o)
def inc1 (w : Wr) (i : Nat) : Wr := upd w i (w i + 1)
theorem kb_rng (x : Int32) : 0 ≤ kb x ∧ kb x ≤ 999 := by
  unfold kb
  by_cases h : x < 999
  · simp only [h, if_true]
    by_cases h2 : 0 < x
    · simp only [h2, if_true]; exact ⟨Int32.le_of_lt h2, Int32.le_of_lt h⟩
    · simp only [h2, if_false]; decide
  · simp only [h, if_false]; decide
theorem kb_sub {v : Int32} (h0 : 0 ≤ v) (h9 : v ≤ 999) : kb (0 - v) = 0 := by
  unfold kb
  have h1 : ¬ 0 < (0 - v) := by
    rw [Int32.lt_iff_toInt_lt]
    rw [Int32.le_iff_toInt_le] at h0 h9
    have e0 : (0 : Int32).toInt = 0 := by decide
    have e9 : (999 : Int32).toInt = 999 := by decide
    rw [e0] at h0 ⊢
    rw [e9] at h9
    rw [Int32.toInt_sub, e0, Int.bmod_eq_of_le (by omega) (by omega)]
    omega
  have h2 : (0 - v) < 999 := Int32.lt_of_le_of_lt (Int32.not_lt.mp h1) (by decide)
  simp only [h2, if_true, h1, if_false]
theorem rval_rng {lw : Option (List Cls)} {lo : Int32} {f : Nat → Int32} {w : Nat} (hw : w < 4) : 0 ≤ rval lw lo f w ∧ rval lw lo f w ≤ 999 := by
  have hz : 0 ≤ zWI w ∧ zWI w ≤ 999 := by
    have : w = 0 ∨ w = 1 ∨ w = 2 ∨ w = 3 := by omega
    rcases this with rfl | rfl | rfl | rfl <;> decide
  cases lw with
  | none => exact hz
  | some L =>
    show 0 ≤ lawv L lo f w L.length ∧ lawv L lo f w L.length ≤ 999
    generalize L.length = n
    induction n with
    | zero => exact hz
    | succ n ih =>
      simp only [lawv]
      split
      · unfold clv; split
        · exact kb_rng _
        · decide
      · exact ih
